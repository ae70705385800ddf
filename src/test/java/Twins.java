import java.util.ArrayList;
import java.util.List;
import java.util.NoSuchElementException;
import java.util.function.Function;
import java.util.function.Supplier;

/**
 * Two objects made by the same calls: one of them gets a call more that is refused, and must answer
 * all that can be asked, now and some hours later, like the other.
 */
final class Twins {
    static final Class<?> NO_SUCH = NoSuchElementException.class;
    static final Class<?> ILLEGAL = IllegalArgumentException.class;

    private Twins() {
    }

    /** The due answer is a number, a boolean or the class of what is thrown. */
    static void refused(String call, Supplier<FireWards> made, Function<FireWards, Object> refused, Object due) {
        FireWards one = made.get();
        Due.same(call, answer(one, refused), due);
        compare("behind " + call, one, made.get(), true);
    }

    /** Like refused(), of a call that takes its text from the tape in spite of all: law(). */
    static void refusedText(String call, Supplier<FireWards> made, Function<FireWards, Object> refused, Object due) {
        FireWards one = made.get();
        Due.same(call, answer(one, refused), due);
        compare("behind " + call, one, made.get(), false);
    }

    private static Object answer(FireWards x, Function<FireWards, Object> call) {
        try {
            return call.apply(x);
        } catch (RuntimeException e) {
            return e.getClass();
        }
    }

    private static void compare(String when, FireWards one, FireWards other, boolean tapeToo) {
        if (tapeToo) {
            Due.is(when + ", fault", one.fault(), other.fault());
            Due.is(when + ", tape", one.count(8), other.count(8));
        }
        Due.same(when, told(one), told(other));
        Due.is(when + ", wind", turned(one), turned(other));
        int hours = Math.min(3, 2400 - other.count(0));
        one.hours(hours);
        other.hours(hours);
        Due.same(when + ", hours later", told(one), told(other));
        if (tapeToo) {
            Due.is(when + ", law of the tape", one.law(one.count(8), 0), other.law(other.count(8), 0));
            Due.is(when + ", its fault", one.fault(), other.fault());
            Due.is(when + ", law in force", one.count(9), other.count(9));
        }
    }

    /** The wind, as it was and stays. */
    private static int turned(FireWards x) {
        int wind = x.wind(0);
        x.wind(wind);
        return wind;
    }

    /** All that can be asked, but for the tape and the fault. */
    static List<Integer> told(FireWards x) {
        List<Integer> all = new ArrayList<>();
        for (int what = 0; what < 10; what++) {
            all.add(what == 8 ? 0 : x.count(what));
        }
        for (int company = 0; company < x.count(5); company++) {
            for (int what = 0; what < 8; what++) {
                all.add(x.of(company, what));
            }
        }
        try {
            for (int cell = 0; cell < 64; cell++) {
                for (int what = 0; what < 8; what++) {
                    all.add(x.cell(cell, what));
                }
            }
        } catch (NoSuchElementException e) {
            all.add(-1000);
        }
        try {
            for (int i = 0; i < 64; i++) {
                all.add(x.breaker(i));
            }
        } catch (NoSuchElementException e) {
            all.add(-2000);
        }
        return all;
    }
}
