/** Promises 5, 9, 10, 11, 14 and 17: company, light, send, pull, of, count. */
public final class CompanyTest {
    public static void main(String[] args) {
        companies();
        lights();
        sends();
        pulls();
        roofIsLost();
        pullIsForgottenInFire();
        counts();
        Due.end("CompanyTest");
    }

    private static void companies() {
        FireWards x = new FireWards(1, 1);
        Due.is("ward -1", x.company(-1, 1, 0), FireWards.NONE);
        Due.is("ward 8", x.company(8, 1, 0), FireWards.NONE);
        Due.is("men 0", x.company(0, 0, 0), FireWards.NONE);
        Due.is("men 10", x.company(0, 10, 0), FireWards.NONE);
        Due.none("no such cell", () -> x.company(0, 1, 4));
        Due.none("no such cell, numbers wrong too", () -> x.company(9, 0, -1));
        Due.none("no company yet", () -> x.of(0, 0));
        for (int i = 0; i < 8; i++) {
            Due.is("company " + i, x.company(7 - i, 9 - i, i % 4), i);
        }
        Due.is("a ninth", x.company(0, 1, 0), FireWards.NONE);
        Due.none("a ninth on no cell", () -> x.company(0, 1, 4));
        int[] due = {5, 7, 2, FireWards.NONE, 0, 0, 0, 0};
        for (int what = 0; what < 8; what++) {
            Due.is("of 2, " + what, x.of(2, what), due[what]);
        }
        Due.none("of what 8", () -> x.of(0, 8));
        Due.none("of what -1", () -> x.of(0, -1));
        Due.none("of 8", () -> x.of(8, 0));
        Due.none("of -1", () -> x.of(-1, 0));
        Due.is("count", x.count(5), 8);
    }

    private static void lights() {
        FireWards x = new FireWards(3, 0);
        x.house(1, 3, 2);
        x.house(2, 1, 2);
        x.company(2, 1, 0);
        x.company(3, 1, 0);
        x.company(2, 1, 3);
        Due.is("ground", x.light(0), FireWards.NONE);
        Due.none("no such cell", () -> x.light(4));
        Due.none("no such cell", () -> x.light(-1));
        Due.is("two of its ward", x.light(1), 2);
        Due.is("burning", x.light(1), FireWards.NONE);
        Due.is("goal", x.of(0, 3), 1);
        Due.is("another ward's goal", x.of(1, 3), FireWards.NONE);
        Due.is("all have a goal", x.light(2), 0);
        Due.is("its goal stays", x.of(2, 3), 1);
        x.hours(1);
        Due.is("ashes", x.light(2), FireWards.NONE);
    }

    private static void sends() {
        FireWards x = new FireWards(2, 0);
        x.house(0, 9, 0);
        x.house(2, 9, 0);
        x.company(1, 1, 1);
        Due.none("no such company", () -> x.send(1, 0));
        Due.none("no such company", () -> x.send(-1, 0));
        Due.none("no such cell", () -> x.send(0, 3));
        Due.none("no such cell", () -> x.send(0, -1));
        Due.no("whole", x.send(0, 0));
        Due.no("ground", x.send(0, 1));
        x.light(0);
        Due.yes("burning", x.send(0, 0));
        Due.no("its goal already", x.send(0, 0));
        Due.is("goal", x.of(0, 3), 0);
        Due.is("not to be pulled down", x.of(0, 4), 0);
        Due.yes("from a fire to pulling down", x.pull(0, 2));
        Due.is("goal", x.of(0, 3), 2);
        Due.is("to be pulled down", x.of(0, 4), 1);
        Due.yes("and back", x.send(0, 0));
        Due.is("not to be pulled down", x.of(0, 4), 0);
    }

    private static void pulls() {
        FireWards x = new FireWards(2, 0);
        x.house(0, 9, 0);
        x.house(2, 5, 0);
        x.company(1, 4, 1);
        x.company(1, 9, 1);
        Due.none("no such company", () -> x.pull(2, 0));
        Due.none("no such cell", () -> x.pull(0, 3));
        Due.no("ground", x.pull(0, 1));
        Due.yes("whole", x.pull(0, 0));
        Due.no("its goal already", x.pull(0, 0));
        x.hours(1);
        Due.is("fuel", x.cell(0, 3), 5);
        Due.is("wood", x.cell(0, 1), 9);
        Due.yes("both pull", x.pull(1, 0));
        x.hours(1);
        Due.is("fuel", x.cell(0, 3), 0);
        Due.is("pulled down", x.cell(0, 0), 3);
        Due.is("no goal any more", x.of(0, 3), FireWards.NONE);
        Due.is("no goal any more", x.of(1, 3), FireWards.NONE);
        Due.is("not to be pulled down", x.of(1, 4), 0);
        Due.no("pulled down already", x.pull(1, 0));
        x.light(2);
        Due.no("burning", x.pull(1, 2));
        // When the first one has it down, the second one has no work at it.
        FireWards y = new FireWards(2, 0);
        y.house(1, 4, 0);
        y.company(0, 4, 0);
        y.company(0, 4, 2);
        y.pull(0, 1);
        y.pull(1, 1);
        y.hours(1);
        Due.is("both are free", y.of(1, 3), FireWards.NONE);
        Due.is("fuel", y.cell(1, 3), 0);
    }

    private static void roofIsLost() {
        FireWards x = new FireWards(2, 0);
        x.house(0, 9, 0);
        x.house(2, 9, 0);
        x.company(7, 1, 1);
        x.company(7, 2, 1);
        x.light(0);
        x.send(0, 0);
        x.hours(1);
        Due.is("roof", x.cell(0, 6), 0);
        x.send(1, 0);
        x.hours(1);
        Due.is("who came first", x.cell(0, 6), 0);
        Due.is("no quarrel where there is a roof", x.count(7), 0);
        Due.is("only who has the roof works", x.cell(0, 5), 2);
        x.pull(0, 2);
        Due.is("nobody has it", x.cell(0, 6), FireWards.NONE);
        x.hours(1);
        Due.is("the other has it", x.cell(0, 6), 1);
        Due.is("wet stays and grows", x.cell(0, 5), 4);
        x.light(2);
        x.send(1, 2);
        Due.is("nobody has it", x.cell(0, 6), FireWards.NONE);
    }

    private static void pullIsForgottenInFire() {
        FireWards x = new FireWards(2, 0);
        x.house(1, 9, 3);
        x.company(3, 1, 0);
        x.company(4, 1, 2);
        x.pull(0, 1);
        x.pull(1, 1);
        Due.is("lit: who is called", x.light(1), 1);
        Due.is("called", x.of(0, 3), 1);
        Due.is("to put it out", x.of(0, 4), 0);
        Due.is("not called", x.of(1, 3), FireWards.NONE);
        Due.is("nor pulling", x.of(1, 4), 0);
    }

    private static void counts() {
        FireWards x = new FireWards(3, 1);
        for (int cell = 0; cell < 8; cell++) {
            if (cell != 5) {
                x.house(cell, cell == 0 ? 1 : 9, 0);
            }
        }
        x.company(1, 9, 5);
        x.light(0);
        x.pull(0, 6);
        x.hours(1);
        x.light(7);
        x.feed(0, 0, 0, 0, 0);
        Due.is("hour", x.count(0), 1);
        Due.is("burning", x.count(1), 1);
        Due.is("whole", x.count(2), 4);
        Due.is("ashes", x.count(3), 1);
        Due.is("pulled down", x.count(4), 1);
        Due.is("companies", x.count(5), 1);
        Due.is("laws", x.count(6), 0);
        Due.is("quarrels", x.count(7), 0);
        Due.is("tape", x.count(8), 20);
        Due.is("in force", x.count(9), FireWards.NONE);
        Due.none("count 10", () -> x.count(10));
        Due.none("count -1", () -> x.count(-1));
    }
}
