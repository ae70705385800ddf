import java.util.function.Function;
import java.util.function.Supplier;

/**
 * Every call that can be refused, in a city where much goes on and in one where all is full: what it
 * answers, and that nothing changes by it (see Twins).
 */
public final class RefusedTest {
    private static final int NONE = FireWards.NONE;
    private static final int MIN = Integer.MIN_VALUE;
    private static final int MAX = Integer.MAX_VALUE;
    private static final int[] NO_CELLS = {MIN, -1, 6, 7, MAX};

    private static Supplier<FireWards> made;

    public static void main(String[] args) {
        citiesAreSo();
        made = RefusedTest::busy;
        houses();
        wells();
        winds();
        companies();
        laws();
        faults();
        lights();
        sends();
        pulls();
        hours();
        asking();
        breaks();
        made = RefusedTest::full;
        allIsFull();
        made = () -> new FireWards(0, 0);
        newObject();
        Due.end("RefusedTest");
    }

    /**
     * 3 by 2: 0 is whole and being pulled down, 1 burns with a roof, 2 has a well, 3 is ashes, 4 was
     * pulled down, 5 is ground; three companies, two laws, a fault, 40 bytes, a break of two.
     */
    private static FireWards busy() {
        FireWards x = new FireWards(2, 1);
        x.house(0, 9, 1);
        x.house(1, 5, 2);
        x.house(3, 1, 3);
        x.house(4, 2, 4);
        x.light(3);
        x.breaks(1);
        x.company(7, 2, 5);
        x.pull(0, 4);
        x.hours(1);
        x.well(2, true);
        x.company(2, 1, 0);
        x.light(1);
        x.hours(1);
        x.company(1, 3, 5);
        x.pull(0, 0);
        x.wind(4);
        Due.law(x, "call far<4;pay 10+fuel;", 0);
        Due.law(x, "call 1;pay 2;", 1);
        Due.law(x, "call x;", 0);
        Due.feed(x, "pay 5+fires; call not 1; #");
        return x;
    }

    /** One cell in the last hour, with all companies, laws and bytes that there can be. */
    private static FireWards full() {
        FireWards x = new FireWards(0, 0);
        x.house(0, 9, 0);
        for (int i = 0; i < 8; i++) {
            x.company(i, i + 1, 0);
        }
        for (int i = 0; i < 24; i++) {
            x.hours(100);
        }
        for (int i = 0; i < 6; i++) {
            x.law(0, 100 - i);
        }
        Due.feed(x, "pay 1;".repeat(12) + " ".repeat(328));
        return x;
    }

    /** What the two cities are told to be, or what follows would look at less than it says. */
    private static void citiesAreSo() {
        FireWards x = busy();
        int[] states = {0, 1, NONE, 2, 3, NONE};
        for (int cell = 0; cell < 6; cell++) {
            Due.is("state of " + cell, x.cell(cell, 0), states[cell]);
        }
        Due.is("well", x.cell(2, 7), 1);
        Due.is("roof", x.cell(1, 6), 1);
        Due.is("goal of 0", x.of(0, 3), 0);
        Due.is("to be pulled down", x.of(0, 4), 1);
        Due.is("goal of 1", x.of(1, 3), 1);
        Due.is("goal of 2", x.of(2, 3), NONE);
        Due.is("laws", x.count(6), 2);
        Due.is("in force", x.count(9), 0);
        Due.is("fault", x.fault(), 5);
        Due.is("tape", x.count(8), 40);
        Due.is("kept", x.breaker(1), 4);
        Due.is("wind", x.wind(0), 4);
        FireWards y = full();
        int[] counts = {2400, 0, 1, 0, 0, 8, 6, 0, 400, 0};
        for (int what = 0; what < 10; what++) {
            Due.is("full, count " + what, y.count(what), counts[what]);
        }
    }

    private static void refused(String call, Function<FireWards, Object> refused, Object due) {
        Twins.refused(call, made, refused, due);
    }

    private static void houses() {
        Due.says("False: there stands one, or a WELL is there, or a number is not as told.");
        refused("one stands there", x -> x.house(0, 1, 1), false);
        refused("the same", x -> x.house(0, 9, 1), false);
        refused("one burns there", x -> x.house(1, 1, 1), false);
        refused("a well", x -> x.house(2, 1, 1), false);
        for (int cell : new int[] {0, 1, 2, 3, 4, 5}) {
            refused("wood 0 on " + cell, x -> x.house(cell, 0, 1), false);
            refused("wood 10 on " + cell, x -> x.house(cell, 10, 1), false);
            refused("ward -1 on " + cell, x -> x.house(cell, 1, -1), false);
            refused("ward 8 on " + cell, x -> x.house(cell, 1, 8), false);
        }
        Due.says("NoSuchElementException: no such CELL (as everywhere).");
        for (int cell : NO_CELLS) {
            refused("house " + cell, x -> x.house(cell, 1, 1), Twins.NO_SUCH);
            refused("house " + cell + ", wood 0", x -> x.house(cell, 0, 1), Twins.NO_SUCH);
            refused("house " + cell + ", ward 8", x -> x.house(cell, 1, 8), Twins.NO_SUCH);
        }
    }

    private static void wells() {
        Due.says("False: there is (was) a HOUSE, or it is so already.");
        for (int cell : new int[] {0, 1, 3, 4}) {
            refused("well " + cell, x -> x.well(cell, true), false);
            refused("no well " + cell, x -> x.well(cell, false), false);
        }
        refused("one already", x -> x.well(2, true), false);
        refused("none already", x -> x.well(5, false), false);
        for (int cell : NO_CELLS) {
            refused("well " + cell, x -> x.well(cell, true), Twins.NO_SUCH);
            refused("no well " + cell, x -> x.well(cell, false), Twins.NO_SUCH);
        }
    }

    private static void winds() {
        Due.says("IllegalArgumentException: it is not 0 to 4.");
        for (int wind : new int[] {MIN, -1, 5, 8, MAX}) {
            refused("wind " + wind, x -> x.wind(wind), Twins.ILLEGAL);
        }
        refused("the same wind changes nothing", x -> x.wind(4), 4);
    }

    private static void companies() {
        Due.says("NONE: there are 8, or a number is not as told.");
        for (int wrong : new int[] {MIN, -1, 8, MAX}) {
            refused("ward " + wrong, x -> x.company(wrong, 1, 1), NONE);
        }
        for (int wrong : new int[] {MIN, -1, 0, 10, MAX}) {
            refused("men " + wrong, x -> x.company(1, wrong, 1), NONE);
        }
        for (int cell : NO_CELLS) {
            refused("on " + cell, x -> x.company(1, 1, cell), Twins.NO_SUCH);
            refused("on " + cell + ", men 0", x -> x.company(1, 0, cell), Twins.NO_SUCH);
        }
    }

    private static void laws() {
        Due.says("IllegalArgumentException: the tape has not so many, n below 0, no such DAY (nothing changes).");
        for (int n : new int[] {MIN, -1, 41, 400, MAX}) {
            refused("law of " + n, x -> x.law(n, 0), Twins.ILLEGAL);
        }
        for (int day : new int[] {MIN, -1, 101, MAX}) {
            refused("day " + day, x -> x.law(12, day), Twins.ILLEGAL);
            refused("day " + day + ", no bytes", x -> x.law(0, day), Twins.ILLEGAL);
        }
    }

    private static void faults() {
        Due.says("its number, or - 1 - its FAULT");
        String[] texts = {"pay", "pay 123456;", "pay x;", "#", "pay 1;pay", "pay 1;pay x;", "pay 1;".repeat(13)};
        int[] faults = {1, 2, 3, 1, 1, 3, 2};
        for (int i = 0; i < texts.length; i++) {
            String text = texts[i];
            // The tape and the fault change; no law and nothing else does.
            Twins.refusedText("law " + text, made, x -> retold(x, text), -1 - faults[i]);
            FireWards y = made.get();
            retold(y, text);
            Due.is("laws", y.count(6), 2);
            Due.is("the tape is empty", y.count(8), 0);
            Due.is("the next number", Due.law(y, "", 0), 2);
        }
    }

    /** Empties the tape by a text with a fault, and tells another one. */
    private static int retold(FireWards x, String text) {
        x.law(40, 0);
        return Due.law(x, text, 0);
    }

    private static void lights() {
        Due.says("NONE: it is no WHOLE HOUSE.");
        for (int cell = 1; cell < 6; cell++) {
            int c = cell;
            refused("light " + c, x -> x.light(c), NONE);
        }
        for (int cell : NO_CELLS) {
            refused("light " + cell, x -> x.light(cell), Twins.NO_SUCH);
        }
    }

    private static void sends() {
        Due.says("False: it isn't BURNING, or is its GOAL already. NoSuchElementException: no such COMPANY, CELL.");
        for (int company = 0; company < 3; company++) {
            int i = company;
            for (int cell : new int[] {0, 2, 3, 4, 5}) {
                refused("send " + i + " to " + cell, x -> x.send(i, cell), false);
            }
            for (int cell : NO_CELLS) {
                refused("send " + i + " to " + cell, x -> x.send(i, cell), Twins.NO_SUCH);
            }
        }
        refused("its goal already, with the roof", x -> x.send(1, 1), false);
        for (int company : new int[] {MIN, -1, 3, 8, MAX}) {
            refused("send " + company, x -> x.send(company, 1), Twins.NO_SUCH);
            refused("send " + company + " nowhere", x -> x.send(company, 6), Twins.NO_SUCH);
        }
    }

    private static void pulls() {
        Due.says("Likewise to pull down a WHOLE HOUSE.");
        for (int company = 0; company < 3; company++) {
            int i = company;
            for (int cell : new int[] {1, 2, 3, 4, 5}) {
                refused("pull " + i + " at " + cell, x -> x.pull(i, cell), false);
            }
            for (int cell : NO_CELLS) {
                refused("pull " + i + " at " + cell, x -> x.pull(i, cell), Twins.NO_SUCH);
            }
        }
        refused("its goal already", x -> x.pull(0, 0), false);
        for (int company : new int[] {MIN, -1, 3, 8, MAX}) {
            refused("pull " + company, x -> x.pull(company, 0), Twins.NO_SUCH);
            refused("pull " + company + " nowhere", x -> x.pull(company, 6), Twins.NO_SUCH);
        }
    }

    private static void hours() {
        Due.says("IllegalArgumentException: n is not 0 to 100, or it would be above 2400.");
        for (int n : new int[] {MIN, -1, 101, 2398, 2399, MAX}) {
            refused("hours " + n, x -> x.hours(n), Twins.ILLEGAL);
        }
        refused("no hours change nothing", x -> x.hours(0), 2);
    }

    private static void asking() {
        Due.says("NoSuchElementException: another what.");
        for (int what : new int[] {MIN, -1, 8, MAX}) {
            refused("cell 0 " + what, x -> x.cell(0, what), Twins.NO_SUCH);
            refused("of 0 " + what, x -> x.of(0, what), Twins.NO_SUCH);
        }
        for (int what : new int[] {MIN, -1, 10, MAX}) {
            refused("count " + what, x -> x.count(what), Twins.NO_SUCH);
        }
        for (int cell : NO_CELLS) {
            refused("cell " + cell, x -> x.cell(cell, 0), Twins.NO_SUCH);
        }
        for (int company : new int[] {MIN, -1, 3, MAX}) {
            refused("of " + company, x -> x.of(company, 0), Twins.NO_SUCH);
        }
        refused("asking for the fault changes nothing", x -> x.fault(), 5);
        refused("asking for the tape changes nothing", x -> x.count(8), 40);
        refused("asking for a cell changes nothing", x -> x.cell(1, 6), 1);
        refused("asking for a company changes nothing", x -> x.of(1, 3), 1);
    }

    private static void breaks() {
        Due.says("NONE (what was kept stays): it is no WHOLE HOUSE, or there is none.");
        for (int cell = 0; cell < 6; cell++) {
            int c = cell;
            refused("breaks " + c, x -> x.breaks(c), NONE);
        }
        for (int cell : NO_CELLS) {
            refused("breaks " + cell, x -> x.breaks(cell), Twins.NO_SUCH);
        }
        Due.says("The i-th CELL of what is kept. NoSuchElementException: there is none.");
        for (int i : new int[] {MIN, -1, 2, 3, MAX}) {
            refused("breaker " + i, x -> x.breaker(i), Twins.NO_SUCH);
        }
        refused("asking for the first changes nothing", x -> x.breaker(0), 0);
        refused("asking for the second changes nothing", x -> x.breaker(1), 4);
    }

    private static void allIsFull() {
        Due.says("NONE: there are 8, or a number is not as told.");
        refused("a ninth company", x -> x.company(0, 1, 0), NONE);
        refused("a ninth company, men 0", x -> x.company(0, 0, 0), NONE);
        refused("a ninth company on no cell", x -> x.company(0, 1, 1), Twins.NO_SUCH);
        Due.says("NONE, and none come, if it would have more than 400.");
        refused("a feed", x -> x.feed(0, 0, 0, 0, 0), NONE);
        refused("a feed", x -> x.feed(MAX, MAX, MAX, MAX, MAX), NONE);
        Due.says("-9: there are 6.");
        Twins.refusedText("a law", made, x -> x.law(6, 0), -9);
        Twins.refusedText("a law of the latest day", made, x -> x.law(6, 100), -9);
        Twins.refusedText("a text with a fault", made, x -> x.law(3, 100), -9);
        refused("n is too large", x -> x.law(401, 0), Twins.ILLEGAL);
        refused("no such day", x -> x.law(6, 101), Twins.ILLEGAL);
        Due.says("it would be above 2400");
        refused("an hour more", x -> x.hours(1), Twins.ILLEGAL);
        refused("a hundred more", x -> x.hours(100), Twins.ILLEGAL);
        refused("no hours", x -> x.hours(0), 2400);
    }

    private static void newObject() {
        Due.says("A CITY without HOUSES, hour 0");
        refused("light", x -> x.light(0), NONE);
        refused("light", x -> x.light(1), Twins.NO_SUCH);
        refused("breaks", x -> x.breaks(0), NONE);
        refused("breaker", x -> x.breaker(0), Twins.NO_SUCH);
        refused("send", x -> x.send(0, 0), Twins.NO_SUCH);
        refused("pull", x -> x.pull(0, 0), Twins.NO_SUCH);
        refused("of", x -> x.of(0, 0), Twins.NO_SUCH);
        refused("well", x -> x.well(0, false), false);
        refused("law", x -> x.law(1, 0), Twins.ILLEGAL);
        refused("hours", x -> x.hours(101), Twins.ILLEGAL);
    }
}
