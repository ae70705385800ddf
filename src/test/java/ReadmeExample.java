/** The example of README.md; ReadmeTest compares the two, and what this prints with what it says. */
public final class ReadmeExample {
    public static void main(String[] args) {
        FireWards city = new FireWards(5, 1);       // 6 cells wide, 2 high
        int[] wood = {3, 9, 9, 2, 2, 9};
        for (int cell = 0; cell < 6; cell++) {
            city.house(cell, wood[cell], cell / 3); // the upper row: wards 0 and 1
        }
        city.well(8, true);
        city.wind(2);                               // it blows towards greater x
        int a = city.company(0, 3, 6);              // ward 0, 3 men, below cell 0
        int b = city.company(0, 5, 1);              // ward 0, 5 men, right of cell 0
        int c = city.company(1, 1, 9);              // ward 1, 1 man

        say("a text with a fault", enact(city, "call own = ;"));
        say("its place", city.fault());
        say("a law", enact(city, "call own = ward; call 2 < fires; pay 10 * wood + men;"));

        say("called to cell 0", city.light(0));
        city.hours(1);
        say("who has its roof", city.cell(0, 6));
        say("quarrels of the other one", city.of(b, 6));
        city.hours(1);
        say("burning houses", city.count(1));
        say("the first one is paid", city.of(a, 5));

        say("called to cell 3", city.light(3));
        say("to be pulled down for cell 5", city.breaks(5));
        say("that is cell", city.breaker(0));
        city.pull(c, city.breaker(0));              // who was called to the fire goes there now
        city.send(a, 3);                            // too far away
        say("the hour", city.hours(2));
        say("ashes", city.count(3));
        say("pulled down", city.count(4));
        say("warmth of cell 5", city.cell(5, 4));
        city.house(3, 7, 1);                        // built anew
        say("whole houses", city.count(2));
    }

    /** Feeds a text to the tape, twenty bytes a call, and makes it a law from day 0 on. */
    private static int enact(FireWards city, String text) {
        int[] four = new int[5];
        for (int at = 0; at < text.length(); at += 20) {
            for (int i = 0; i < 20; i++) {
                int next = at + i < text.length() ? text.charAt(at + i) : ' ';
                four[i / 4] = four[i / 4] << 8 | next;
            }
            city.feed(four[0], four[1], four[2], four[3], four[4]);
        }
        return city.law(text.length(), 0);
    }

    private static void say(String what, int answer) {
        System.out.println(what + ": " + answer);
    }
}
