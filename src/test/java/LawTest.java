/** Promises 6, 7 and 8: feed, law, fault; and what laws call and pay. */
public final class LawTest {
    public static void main(String[] args) {
        tape();
        lawCalls();
        faults();
        tooMuch();
        inForce();
        values();
        names();
        firesOfPay();
        fullBook();
        Due.end("LawTest");
    }

    private static void tape() {
        FireWards x = new FireWards(0, 0);
        for (int i = 1; i <= 20; i++) {
            Due.is("feed", x.feed(0, 0, 0, 0, 0), 20 * i);
        }
        Due.is("a 21st", x.feed(0, 0, 0, 0, 0), FireWards.NONE);
        Due.is("tape", x.count(8), 400);
        Due.is("a 0 is no token", x.law(400, 0), -2);
        Due.is("the tape is empty", x.count(8), 0);
        // The highest byte of each number comes first: "pay " "1 + " "2 ; " "    " and a byte that is none.
        Due.is("feed", x.feed(0x70617920, 0x31202b20, 0x32203b20, 0x20202020, 0xff000000), 20);
        Due.is("the first sixteen", x.law(16, 0), 0);
        x.feed(0x70617920, 0x31202b20, 0x32203b20, 0x20202020, 0xff000000);
        Due.is("the seventeenth is no token", x.law(17, 0), -2);
        Due.is("there", x.fault(), 16);
    }

    private static void lawCalls() {
        FireWards x = new FireWards(0, 0);
        Due.is("empty", x.law(0, 0), 0);
        Due.is("fault", x.fault(), FireWards.NONE);
        Due.is("a fault", Due.law(x, "call", 0), -2);
        Due.is("fault", x.fault(), 4);
        x.feed(0x20202020, 0x20202020, 0x20202020, 0x20202020, 0x20202020);
        Due.illegal("n below 0", () -> x.law(-1, 0));
        Due.illegal("n above the tape", () -> x.law(21, 0));
        Due.illegal("day -1", () -> x.law(0, -1));
        Due.illegal("day 101", () -> x.law(0, 101));
        Due.is("nothing changes", x.count(8), 20);
        Due.is("nothing changes", x.fault(), 4);
        Due.is("nothing changes", x.count(6), 1);
        Due.is("blanks alone, day 100", x.law(20, 100), 1);
        Due.is("fault", x.fault(), FireWards.NONE);
        Due.is("laws", x.count(6), 2);
    }

    private static void fault(String text, int fault, int place) {
        FireWards x = new FireWards(0, 0);
        Due.is("\"" + text + "\"", Due.law(x, text, 0), fault == 0 ? 0 : -1 - fault);
        Due.is("\"" + text + "\" place", x.fault(), fault == 0 ? FireWards.NONE : place);
        Due.is("\"" + text + "\" laws", x.count(6), fault == 0 ? 1 : 0);
    }

    private static void faults() {
        fault("", 0, 0);
        fault(" \n ", 0, 0);
        fault("call 1;pay ward", 1, 15);
        fault("call 1;pay 2;", 0, 0);
        fault("call1;pay(men)*2;", 0, 0);
        fault("call not ward=own and far<4 or fires+hour-wood*fuel;", 0, 0);
        fault("call 1 ", 1, 7);
        fault("call ;", 1, 5);
        fault(" call\t1;", 1, 5);
        fault("Call 1;", 1, 0);
        fault("cal 1;", 1, 0);
        fault("ward;", 1, 0);
        fault("7;", 1, 0);
        fault("call 1;;", 1, 7);
        fault("call 1 2;", 1, 7);
        fault("call 1 ward;", 1, 7);
        fault("call 1 wart;", 1, 7);
        fault("call 1 call 1;", 1, 7);
        fault("call 1<2<3;", 1, 8);
        fault("call 1=2<3;", 1, 8);
        fault("call (1<2)<3;", 0, 0);
        fault("call -1;", 1, 5);
        fault("call 1+;", 1, 7);
        fault("call 1+-1;", 1, 7);
        fault("call (1;", 1, 7);
        fault("call 1);", 1, 6);
        fault("call ();", 1, 6);
        fault("call (1", 1, 7);
        fault("call not;", 1, 8);
        fault("call 1+not 1;", 3, 7);
        fault("call not not 1;", 3, 9);
        fault("call 1 not 1;", 1, 7);
        fault("call and;", 3, 5);
        fault("call call;", 3, 5);
        fault("call or;", 3, 5);
        fault("call pay 1;", 3, 5);
        fault("call z;", 3, 5);
        fault("call a;", 3, 5);
        fault("call {;", 1, 5);
        fault("call `;", 1, 5);
        fault("call 1/2;", 1, 6);
        fault("call 1:2;", 1, 6);
        fault("call\r1;", 1, 4);
        fault("call >1;", 1, 5);
        fault("call \u00e9;", 1, 5);
        fault("call wards;", 3, 5);
        fault("call 1 and wood or  x<y;", 3, 20);
        fault("call 1 and #;", 1, 11);
        fault("call 00001;", 0, 0);
        fault("call 99999;", 0, 0);
        fault("call 000001;", 2, 5);
        fault("call 1+123456789012;", 2, 7);
        fault("call 1 123456;", 1, 7);
        fault("123456", 1, 0);
        fault("call x;pay 123456;", 3, 5);
        fault("call 123456;pay x;", 2, 5);
        fault("call 12x;", 1, 7);
    }

    private static void tooMuch() {
        String twelve = "pay 1;".repeat(12);
        fault(twelve, 0, 0);
        fault(twelve + "pay 1;", 2, 72);
        fault(twelve + " call", 2, 73);
        fault(twelve + "ward", 1, 72);
        fault(twelve + ";", 1, 72);
        fault("call (((((1)))));", 0, 0);
        fault("call ((((((1))))));", 2, 11);
        fault("call (((((( not 1", 2, 12);
        fault("call (((((((", 2, 11);
        fault("call ((((((ward", 2, 11);
        fault("call ((((((123456", 2, 11);
        fault("call (((((()", 1, 11);
        fault("call ((((((", 1, 11);
        fault("call ((((((+", 1, 11);
        fault("call ((((((wart", 3, 11);
        fault("call (((((1))))) + (((((2))))) < (((((not (1))))));", 2, 43);
        fault("call (((((1))))) + (((((2))))) < (((((not 1)))));", 0, 0);
        // A text as long as can be.
        fault("call 1" + "+1".repeat(196) + ";\n", 0, 0);
    }

    private static void inForce() {
        FireWards x = new FireWards(0, 0);
        Due.law(x, "call 0;", 1);
        Due.is("none yet", x.count(9), FireWards.NONE);
        x.hours(23);
        Due.is("none yet", x.count(9), FireWards.NONE);
        x.hours(1);
        Due.is("a day later", x.count(9), 0);
        Due.law(x, "call 0;", 0);
        Due.is("an earlier day", x.count(9), 0);
        Due.law(x, "call 0;", 1);
        Due.is("of like ones the later told", x.count(9), 2);
        Due.law(x, "call 0;", 100);
        Due.law(x, "call 0;", 2);
        Due.is("not yet", x.count(9), 2);
        x.hours(24);
        Due.is("the latest", x.count(9), 4);
        for (int i = 0; i < 23; i++) {
            x.hours(100);
        }
        x.hours(51);
        Due.is("hour 2399", x.count(9), 4);
        x.hours(1);
        Due.is("hour 2400", x.count(9), 3);
    }

    /** What a company is paid by this law for a house of wood 1 that it puts out in the first hour. */
    private static int paid(String text) {
        FireWards x = new FireWards(2, 2);
        x.house(4, 1, 5);
        x.company(3, 4, 3);
        Due.is(text, Due.law(x, "call 1;" + text, 0), 0);
        x.light(4);
        x.hours(1);
        Due.is("put out", x.of(0, 7), 1);
        return x.of(0, 5);
    }

    private static void values() {
        Due.is("no pay", paid(""), 0);
        Due.is("one", paid("pay 7;"), 7);
        Due.is("the sum of all", paid("pay 7;call 0;pay 80;"), 87);
        Due.is("from the left", paid("pay 1+2*3;"), 9);
        Due.is("from the left", paid("pay 10-2-3;"), 5);
        Due.is("below 0", paid("pay 2-5;"), -3);
        Due.is("in brackets", paid("pay 10-(2-3);"), 11);
        Due.is("wraps", paid("pay 65536*65536;"), 0);
        Due.is("wraps", paid("pay 65536*32768;"), Integer.MIN_VALUE);
        Due.is("less", paid("pay 1<2;"), 1);
        Due.is("less", paid("pay 2<2;"), 0);
        Due.is("less of numbers below 0", paid("pay 0-5<2;"), 1);
        Due.is("same", paid("pay 2+3=5;"), 1);
        Due.is("same", paid("pay 2+3=6;"), 0);
        Due.is("not of its whole test", paid("pay not 1<2;"), 0);
        Due.is("not of its whole test", paid("pay not 2<1;"), 1);
        Due.is("not of a number", paid("pay not 7;"), 0);
        Due.is("not of 0", paid("pay not 0;"), 1);
        Due.is("not, then and", paid("pay not 0 and 0;"), 0);
        Due.is("and", paid("pay 7 and 9;"), 1);
        Due.is("and", paid("pay 7 and 0;"), 0);
        Due.is("or", paid("pay 0 or 9;"), 1);
        Due.is("or", paid("pay 0 or 0;"), 0);
        Due.is("one strength, from the left", paid("pay 1 or 0 and 0;"), 0);
        Due.is("one strength, from the left", paid("pay 0 and 0 or 1;"), 1);
        Due.is("brackets", paid("pay 1 or (0 and 0);"), 1);
        Due.is("a number stays", paid("pay (3)+(4<5)*2;"), 8);
        Due.is("deep", paid("pay 1 and 1=0+(1 and 1=0+(1 and 1=0+(1 and 1=0+(1 and 1=0+(1 and 1=0+1)))));"), 1);
    }

    private static void names() {
        Due.is("ward", paid("pay ward;"), 5);
        Due.is("wood", paid("pay wood;"), 1);
        Due.is("fuel", paid("pay fuel;"), 1);
        Due.is("own", paid("pay own;"), 3);
        Due.is("men", paid("pay men;"), 4);
        Due.is("far", paid("pay far;"), 1);
        Due.is("hour", paid("pay hour;"), 0);
        Due.is("fires", paid("pay fires;"), 0);
        // A bell: far in both ways, the hour of the next day, all fires, the one that is lit too.
        String[] calls = {"call ward=6;", "call wood=9;", "call own=2;", "call men=4;", "call far=5;",
            "call hour=3;", "call fires=2;", "call 0;call 1;", "call 1;call 0;", "call 0-1;",
            "call 0;", "pay 1;", ""};
        for (int i = 0; i < calls.length; i++) {
            FireWards x = new FireWards(4, 4);
            x.house(24, 9, 6);
            x.house(0, 9, 6);
            x.company(2, 4, 7);
            x.hours(27);
            x.light(0);
            Due.law(x, calls[i], 1);
            Due.is(calls[i], x.light(24), i < 10 ? 1 : 0);
        }
        // Each company by itself: the first is called, the second is not.
        FireWards z = new FireWards(1, 0);
        z.house(0, 9, 6);
        z.company(2, 4, 1);
        z.company(3, 4, 1);
        Due.law(z, "call own=2;", 0);
        Due.is("one is called", z.light(0), 1);
        Due.is("not the second", z.of(1, 3), FireWards.NONE);
        FireWards y = new FireWards(4, 4);
        y.house(24, 9, 6);
        y.company(2, 4, 23);
        Due.law(y, "call fuel=5 and wood=9;", 0);
        y.pull(0, 24);
        y.hours(1);
        Due.is("fuel is what is left of wood", y.light(24), 1);
    }

    private static void firesOfPay() {
        // Cell 0 turns to ashes ahead of the reckoning, cell 4 behind it, cell 2 is put out.
        FireWards x = new FireWards(4, 0);
        x.house(0, 1, 0);
        x.house(2, 1, 0);
        x.house(4, 1, 0);
        x.company(0, 4, 1);
        Due.law(x, "pay 100+fires;", 0);
        x.light(0);
        x.light(2);
        x.light(4);
        x.send(0, 2);
        x.hours(1);
        Due.is("ashes", x.cell(0, 0), 2);
        Due.is("whole", x.cell(2, 0), 0);
        Due.is("ashes", x.cell(4, 0), 2);
        Due.is("paid with those behind it burning", x.of(0, 5), 101);
        // The law of the hour that passes, not that of the next one.
        FireWards y = new FireWards(1, 0);
        y.house(0, 1, 0);
        y.company(0, 4, 1);
        Due.law(y, "pay 5;", 0);
        Due.law(y, "pay 6;", 1);
        y.hours(23);
        y.light(0);
        y.send(0, 0);
        y.hours(1);
        Due.is("paid by the law of hour 23", y.of(0, 5), 5);
        y.light(0);
        y.send(0, 0);
        y.hours(1);
        Due.is("paid by the law of hour 24", y.of(0, 5), 11);
    }

    private static void fullBook() {
        FireWards x = new FireWards(0, 0);
        for (int i = 0; i < 6; i++) {
            Due.is("law", Due.law(x, "pay 1" + "+1".repeat(197) + ";", i), i);
        }
        Due.is("a seventh", Due.law(x, "pay 1;", 0), -9);
        Due.is("the tape is empty", x.count(8), 0);
        Due.is("no fault", x.fault(), FireWards.NONE);
        Due.is("laws", x.count(6), 6);
        Due.is("a seventh, with a fault", Due.law(x, "pay x;", 0), -9);
        Due.is("its fault is not looked for", x.fault(), FireWards.NONE);
        Due.illegal("wrong day before all else", () -> x.law(0, 101));
    }
}
