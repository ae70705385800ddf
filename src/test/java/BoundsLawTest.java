/**
 * The boundary cases of LAWS, a method for each sentence that names one: "Terms" part 2 and promises
 * 6 to 8. What is unchanged behind a refused call stands in RefusedTest.
 */
public final class BoundsLawTest {
    private static final int MIN = Integer.MIN_VALUE;
    private static final int MAX = Integer.MAX_VALUE;
    private static final String MOST = "65536*32767+65535";
    private static final String LEAST = "65536*32768";

    public static void main(String[] args) {
        atMostSix();
        fromADayOn();
        latestDay();
        longestText();
        words();
        numbers();
        signs();
        blanks();
        rules();
        rule();
        exprs();
        tests();
        sums();
        parts();
        names();
        hourOfTheDay();
        fires();
        wrapping();
        ones();
        firstFault();
        cannotStand();
        endsTooSoon();
        longNumbers();
        thirteenthRule();
        withinSixOthers();
        noNames();
        called();
        withoutLaw();
        pay();
        twentyBytes();
        fullTape();
        firstBytes();
        days();
        thereAreSix();
        wrongLaws();
        faultPlaces();
        Due.end("BoundsLawTest");
    }

    /** What a company is paid by this law for a house of wood 1 that it puts out in the first hour. */
    private static int paid(String text) {
        FireWards x = new FireWards(2, 2);
        x.house(4, 1, 5);
        x.company(3, 4, 3);
        Due.is("law " + text, Due.law(x, text, 0), 0);
        x.light(4);
        x.send(0, 4);
        x.hours(1);
        Due.is("put out", x.of(0, 7), 1);
        return x.of(0, 5);
    }

    private static final int NO_FAULT = 0;

    private static void law(String text, int fault, int place) {
        FireWards x = new FireWards(0, 0);
        String told = "\"" + (text.length() < 60 ? text : text.substring(0, 20) + ".. " + text.length()) + "\"";
        Due.is(told, Due.law(x, text, 0), fault == NO_FAULT ? 0 : -1 - fault);
        Due.is(told + " place", x.fault(), fault == NO_FAULT ? FireWards.NONE : place);
        Due.is(told + " laws", x.count(6), fault == NO_FAULT ? 1 : 0);
    }

    private static void law(String text) {
        law(text, NO_FAULT, FireWards.NONE);
    }

    /** Lights 5 of 3 by 3 with one company on 0, of another ward: whether this law calls it. */
    private static boolean calls(String text) {
        FireWards x = new FireWards(2, 2);
        x.house(5, 9, 5);
        x.company(3, 4, 0);
        Due.is("law " + text, Due.law(x, text, 0), 0);
        return x.light(5) == 1;
    }

    private static void atMostSix() {
        Due.says("LAWS: texts, numbered from 0 on, at most 6");
        FireWards x = new FireWards(0, 0);
        for (int i = 0; i < 6; i++) {
            Due.is("laws", x.count(6), i);
            Due.is("a fault has no number", Due.law(x, "pay", 0), -2);
            Due.is("law", Due.law(x, "pay 1;", 0), i);
        }
        Due.is("laws", x.count(6), 6);
        Due.is("a seventh", Due.law(x, "pay 1;", 0), -9);
        Due.is("laws", x.count(6), 6);
        Due.is("in force", x.count(9), 5);
    }

    private static void fromADayOn() {
        Due.says("each in force from a DAY on (a DAY is an hour / 24)");
        for (int day : new int[] {0, 1, 2, 50, 99, 100}) {
            FireWards x = new FireWards(0, 0);
            Due.is("law", x.law(0, day), 0);
            while (x.count(0) < 24 * day - 1) {
                x.hours(Math.min(100, 24 * day - 1 - x.count(0)));
            }
            if (day > 0) {
                Due.is("the hour before day " + day, x.count(9), FireWards.NONE);
                x.hours(1);
            }
            Due.is("the first hour of day " + day, x.count(9), 0);
            if (day < 100) {
                x.hours(24);
                Due.is("a day later", x.count(9), 0);
            }
        }
    }

    private static void latestDay() {
        Due.says("of those whose DAY isn't after that of the hour the one with the latest, of like ones the later told");
        FireWards x = new FireWards(0, 0);
        x.hours(48);
        int[] days = {1, 0, 1, 3, 2, 2};
        int[] inForce = {0, 0, 2, 2, 4, 5};
        for (int i = 0; i < 6; i++) {
            x.law(0, days[i]);
            Due.is("with law " + i, x.count(9), inForce[i]);
        }
        x.hours(23);
        Due.is("hour 71", x.count(9), 5);
        x.hours(1);
        Due.is("hour 72", x.count(9), 3);
        // What it says is in force too: the bell and the pay go by it.
        FireWards y = new FireWards(1, 0);
        y.house(0, 9, 0);
        y.company(7, 1, 1);
        Due.law(y, "call 1;", 0);
        Due.law(y, "call 0;", 1);
        y.hours(24);
        Due.is("by the later", y.light(0), 0);
    }

    private static void longestText() {
        Due.says("A text has at most 400 bytes.");
        String longest = "pay 1" + "+1".repeat(197) + ";";
        Due.is("as long as can be", longest.length(), 400);
        law(longest);
        law(" ".repeat(399) + ";", 1, 399);
        law(" ".repeat(400));
        // Its last byte ends a word, a number or a sign.
        law(" ".repeat(396) + "call", 1, 400);
        law(" ".repeat(397) + "cal", 1, 397);
        law("pay" + " ".repeat(393) + "ward", 1, 400);
        law("pay" + " ".repeat(393) + "war" + "e", 3, 396);
        law("pay" + " ".repeat(392) + "12345", 1, 400);
        law("pay" + " ".repeat(391) + "123456", 2, 394);
        law("pay" + " ".repeat(396) + "(", 1, 400);
        law("pay 1" + " ".repeat(394) + ";");
        law("pay1" + "+1".repeat(197) + ";\n");
        // Six of them, with each a pay of its own.
        FireWards x = new FireWards(1, 0);
        x.company(0, 4, 1);
        for (int i = 0; i < 6; i++) {
            Due.is("law", Due.law(x, "pay " + i + "+1".repeat(197) + ";", i), i);
        }
        int paid = 0;
        for (int i = 0; i < 6; i++) {
            x.house(0, 1, 0);
            x.light(0);
            x.send(0, 0);
            x.hours(1);
            Due.is("by law " + i, x.of(0, 5) - paid, i + 197);
            paid = x.of(0, 5);
            x.hours(23);
        }
    }

    private static void words() {
        Due.says("words (a .. z, the longest row)");
        law("call ward;");
        law("callward;", 1, 0);
        law("call wardward;", 3, 5);
        law("call a;", 3, 5);
        law("call z;", 3, 5);
        law("call `;", 1, 5);
        law("call {;", 1, 5);
        law("call A;", 1, 5);
        law("call Z;", 1, 5);
        law("call wArd;", 3, 5);
        law("call ward1;", 1, 9);
        law("call ward and own;");
        law("call wardand own;", 3, 5);
        law("call ward andown;", 1, 10);
        law("call notward;", 3, 5);
        law("call1;");
        law("call(1);");
        law("call " + "z".repeat(394) + ";", 3, 5);
    }

    private static void numbers() {
        Due.says("NUMBERS (1 to 5 digits)");
        int[] values = {0, 9, 10, 99, 100, 999, 1000, 9999, 10000, 12345, 65535, 65536, 67890, 99999};
        for (int value : values) {
            Due.is("number", paid("pay " + value + ";"), value);
        }
        Due.is("with noughts", paid("pay 00007;"), 7);
        Due.is("noughts alone", paid("pay 00000;"), 0);
        law("call 99999;");
        law("call 100000;", 2, 5);
        law("call 000000;", 2, 5);
        law("call /;", 1, 5);
        law("call :;", 1, 5);
        law("call 1/;", 1, 6);
        law("call 1:;", 1, 6);
        law("call 1.5;", 1, 6);
        law("call 12345 67890;", 1, 11);
        law("call 12345+67890;");
    }

    private static void signs() {
        Due.says("signs ( ) ; + - * < =");
        for (int b = 0; b < 256; b++) {
            String sign = String.valueOf((char) b);
            boolean joins = "+-*<=".contains(sign);
            boolean digit = b >= '0' && b <= '9';
            if (" \n".contains(sign)) {
                continue;
            }
            // Where a sign can join: a digit there makes the number longer.
            law("pay 1" + sign + "2;", joins || digit ? NO_FAULT : 1, sign.equals(";") ? 6 : 5);
            if (sign.equals("(")) {
                law("pay (2);");
            } else if (sign.equals(")")) {
                law("pay (2" + sign + ";");
            }
        }
    }

    private static void blanks() {
        Due.says("blanks (32, 10) between them count for nothing");
        for (int b = 0; b < 256; b++) {
            String blank = String.valueOf((char) b);
            boolean is = b == 32 || b == 10;
            law(blank, is ? NO_FAULT : 1, 0);
            law("pay" + blank + "(1);", is ? NO_FAULT : 1, placeBehindPay(b));
        }
        law(" \n call\n \n1 \n+ \n1\n ;\n ");
        law("pay ward < own ; ");
        law("pay 1 2;", 1, 6);
        law("pay wa rd;", 3, 4);
        law("p ay 1;", 1, 0);
        law("pay\n\n\n", 1, 6);
    }

    /** Where the fault is if this byte, no blank, stands between pay and (1); in a text. */
    private static int placeBehindPay(int b) {
        if (b >= 'a' && b <= 'z') {
            return 0;
        }
        if (b >= '0' && b <= '9') {
            return 4;
        }
        return b == '(' ? 7 : 3;
    }

    private static void rules() {
        Due.says("TEXT: RULE*.");
        law("");
        law(" ");
        for (int n = 1; n <= 12; n++) {
            law("call 1;".repeat(n));
            Due.is(n + " rules", paid("pay 2;".repeat(n)), 2 * n);
        }
        law("call 1;;", 1, 7);
        law(";", 1, 0);
    }

    private static void rule() {
        Due.says("RULE: ('call' | 'pay') EXPR ';'.");
        law("call 1;pay 1;");
        law("call 1", 1, 6);
        law("pay 1", 1, 5);
        law("call;", 1, 4);
        law("pay;", 1, 3);
        law("call 1 pay 1;", 1, 7);
        law("call 1, pay 1;", 1, 6);
        law("call call 1;", 3, 5);
        law("calls 1;", 1, 0);
        law("cal 1;", 1, 0);
        law("pays 1;", 1, 0);
        law("1;", 1, 0);
        law("ward;", 1, 0);
        law("x;", 1, 0);
        law("not 1;", 1, 0);
        law("(1);", 1, 0);
        law("123456;", 1, 0);
    }

    private static void exprs() {
        Due.says("EXPR: TEST (('and' | 'or') TEST)* (from the left, of one strength).");
        Due.is("or, then and", paid("pay 1 or 1 and 0;"), 0);
        Due.is("and, then or", paid("pay 0 and 0 or 1;"), 1);
        Due.is("or, and, or", paid("pay 1 or 0 and 0 or 0;"), 0);
        Due.is("and, or, and", paid("pay 0 and 1 or 1 and 1;"), 1);
        Due.is("one alone is no test", paid("pay 7;"), 7);
        Due.is("many", paid("pay 0" + " or 0".repeat(70) + " or 3;"), 1);
        Due.is("many", paid("pay 1" + " and 1".repeat(60) + " and 0;"), 0);
        law("call 1 and;", 1, 10);
        law("call 1 or", 1, 9);
        law("call and 1;", 3, 5);
        law("call 1 and or 1;", 3, 11);
        law("call 1 and and 1;", 3, 11);
    }

    private static void tests() {
        Due.says("TEST: ['not'] SUM [('<' | '=') SUM].");
        Due.is("without all", paid("pay 5;"), 5);
        Due.is("not alone", paid("pay not 5;"), 0);
        Due.is("less", paid("pay 4<5;"), 1);
        Due.is("not less: like ones", paid("pay 5<5;"), 0);
        Due.is("not less", paid("pay 6<5;"), 0);
        Due.is("like", paid("pay 5=5;"), 1);
        Due.is("one less", paid("pay 4=5;"), 0);
        Due.is("one more", paid("pay 6=5;"), 0);
        Due.is("sums on both sides", paid("pay 1+1<1+1+1;"), 1);
        Due.is("a not on either side", paid("pay 1 and not 5<4;"), 1);
        law("call 1<2<3;", 1, 8);
        law("call 1<2=3;", 1, 8);
        law("call 1=2=3;", 1, 8);
        law("call 1=2<3;", 1, 8);
        law("call not not 1;", 3, 9);
        law("call 1<not 1;", 3, 7);
        law("call <1;", 1, 5);
        law("call =1;", 1, 5);
        law("call 1<;", 1, 7);
        law("call 1==1;", 1, 7);
        law("call not;", 1, 8);
        law("call not<1;", 1, 8);
    }

    private static void sums() {
        Due.says("SUM: PART (('+' | '-' | '*') PART)* (from the left).");
        Due.is("plus, times", paid("pay 1+2*3;"), 9);
        Due.is("times, plus", paid("pay 2*3+1;"), 7);
        Due.is("minus, minus", paid("pay 9-3-2;"), 4);
        Due.is("minus, times", paid("pay 9-3*2;"), 12);
        Due.is("below nought", paid("pay 0-1;"), -1);
        Due.is("times what is below nought", paid("pay 0-3*5;"), -15);
        Due.is("many", paid("pay 0" + "-1".repeat(190) + ";"), -190);
        law("call +1;", 1, 5);
        law("call -1;", 1, 5);
        law("call *1;", 1, 5);
        law("call 1++1;", 1, 7);
        law("call 1+;", 1, 7);
        law("call 1-", 1, 7);
    }

    private static void parts() {
        Due.says("PART: NUMBER | NAME | '(' EXPR ')'.");
        Due.is("number", paid("pay 7;"), 7);
        Due.is("name", paid("pay men;"), 4);
        Due.is("expr", paid("pay (1+2)*(9-5);"), 12);
        Due.is("and in brackets", paid("pay (2 and 2)+(0 or 3)*5;"), 10);
        Due.is("not in brackets", paid("pay 3+(not 0);"), 4);
        Due.is("a test in brackets, tested", paid("pay (1<2)<2;"), 1);
        law("call ();", 1, 6);
        law("call (1;", 1, 7);
        law("call 1);", 1, 6);
        law("call (1));", 1, 8);
        law("call )1(;", 1, 5);
        law("call (1)(1);", 1, 8);
        law("call (1;);", 1, 7);
        law("call 1(1);", 1, 6);
    }

    private static boolean callsTo(String law, int wood, int ward, int own, int men, int cell) {
        FireWards x = new FireWards(7, 7);
        x.house(63, wood, ward);
        x.company(own, men, cell);
        Due.is("law " + law, Due.law(x, law, 0), 0);
        return x.light(63) == 1;
    }

    private static void names() {
        Due.says("NAMES: ward, wood, fuel (of the HOUSE), own, men (of the COMPANY), far (HOW FAR the COMPANY's "
            + "CELL is from the HOUSE)");
        for (int v = 0; v <= 9; v++) {
            int ward = v & 7;
            int one = Math.max(1, v);
            Due.yes("ward", callsTo("call ward=" + ward + ";", 3, ward, 7 - ward, 2, 0));
            Due.yes("own", callsTo("call own=" + ward + ";", 3, 7 - ward, ward, 2, 0));
            Due.yes("wood", callsTo("call wood=" + one + ";", one, 6, 1, 10 - one, 0));
            Due.yes("fuel", callsTo("call fuel=" + one + ";", one, 6, 1, 10 - one, 0));
            Due.yes("men", callsTo("call men=" + one + ";", 10 - one, 6, 1, one, 0));
        }
        Due.yes("on it", callsTo("call far=0;", 1, 0, 1, 1, 63));
        Due.yes("beside it", callsTo("call far=1;", 1, 0, 1, 1, 55));
        Due.yes("at the other end", callsTo("call far=14;", 1, 0, 1, 1, 0));
        // Fuel is what is left, wood what was built.
        FireWards x = new FireWards(1, 0);
        x.house(0, 9, 0);
        x.company(1, 4, 1);
        x.pull(0, 0);
        x.hours(2);
        Due.law(x, "call fuel=1 and wood=9;", 0);
        Due.is("fuel", x.light(0), 1);
        // In the pay it is what the house has when it is put out.
        FireWards y = new FireWards(1, 0);
        y.house(0, 3, 0);
        y.company(1, 4, 1);
        Due.law(y, "call 1;pay fuel*10+wood*10+far;", 0);
        y.light(0);
        y.hours(2);
        Due.is("paid", y.of(0, 5), 231);
    }

    private static void hourOfTheDay() {
        Due.says("hour (MOD 24)");
        for (int hour : new int[] {0, 1, 23, 24, 25, 47, 48, 2399, 2400}) {
            FireWards x = new FireWards(1, 0);
            x.house(0, 9, 0);
            x.company(1, 1, 1);
            while (x.count(0) < hour) {
                x.hours(Math.min(100, hour - x.count(0)));
            }
            Due.law(x, "call hour=" + hour % 24 + ";", 0);
            Due.is("hour " + hour, x.light(0), 1);
        }
        // In an hour that passes it is the hour that it was, for bells and for pay.
        FireWards y = new FireWards(1, 0);
        y.house(0, 1, 0);
        y.company(1, 4, 1);
        Due.law(y, "call 1;pay 100+hour;", 0);
        y.hours(23);
        y.light(0);
        y.hours(1);
        Due.is("paid at 23", y.of(0, 5), 123);
        y.light(0);
        y.hours(1);
        Due.is("paid at 24", y.of(0, 5), 223);
    }

    private static void fires() {
        Due.says("fires (how many HOUSES are BURNING then; one that is put out isn't, when its PAY is reckoned)");
        FireWards x = new FireWards(7, 7);
        for (int cell = 0; cell < 64; cell++) {
            x.house(cell, 9, 0);
        }
        for (int i = 0; i < 7; i++) {
            x.company(1, 1, 0);
        }
        Due.law(x, "call fires=1 and own=1;", 0);
        Due.is("the first", x.light(0), 7);
        x.company(2, 1, 0);
        Due.law(x, "call fires=64 and own=2;", 0);
        for (int cell = 1; cell < 64; cell++) {
            Due.is("cell " + cell, x.light(cell), cell == 63 ? 1 : 0);
        }
        Due.is("none but that one", paid("pay 50+fires;"), 50);
        // Two are put out in one hour: for the first the second burns still, for the second none.
        FireWards y = new FireWards(2, 0);
        y.house(0, 1, 0);
        y.house(2, 1, 0);
        y.company(1, 4, 1);
        y.company(2, 4, 1);
        Due.law(y, "pay 50+fires;", 0);
        y.light(0);
        y.light(2);
        y.send(0, 2);
        y.send(1, 0);
        y.hours(1);
        Due.is("the first in order", y.of(1, 5), 51);
        Due.is("the second in order", y.of(0, 5), 50);
    }

    private static void wrapping() {
        Due.says("Ints that wrap");
        Due.is("the most", paid("pay " + MOST + ";"), MAX);
        Due.is("one more", paid("pay " + MOST + "+1;"), MIN);
        Due.is("the least", paid("pay " + LEAST + ";"), MIN);
        Due.is("one less", paid("pay " + LEAST + "-1;"), MAX);
        Due.is("times", paid("pay 99999*99999;"), 99999 * 99999);
        Due.is("times below nought", paid("pay 0-99999*99999;"), -99999 * 99999);
        Due.is("to nought", paid("pay 65536*65536;"), 0);
        Due.is("twice the most", paid("pay " + MOST + "*2;"), -2);
        Due.is("nought less the least", paid("pay 0-(" + LEAST + ");"), MIN);
        Due.is("the least is less", paid("pay " + LEAST + "<(" + MOST + ");"), 1);
        Due.is("the most is not", paid("pay " + MOST + "<(" + LEAST + ");"), 0);
        Due.is("pays together", paid("pay " + MOST + ";pay 1;"), MIN);
    }

    private static void ones() {
        Due.says("tests, and, or, not are 1 or 0 (and, or: of numbers that are not 0; not: 1 of 0, else 0, of all of its TEST)");
        String[] yes = {"1", "2", "99999", "(0-1)", "(" + LEAST + ")"};
        for (String a : yes) {
            Due.is("not " + a, paid("pay not " + a + ";"), 0);
            Due.is(a + " and 0", paid("pay " + a + " and 0;"), 0);
            Due.is("0 and " + a, paid("pay 0 and " + a + ";"), 0);
            Due.is(a + " or 0", paid("pay " + a + " or 0;"), 1);
            Due.is("0 or " + a, paid("pay 0 or " + a + ";"), 1);
            Due.is(a + " = itself", paid("pay " + a + "=" + a + ";"), 1);
            for (String b : yes) {
                Due.is(a + " and " + b, paid("pay " + a + " and " + b + ";"), 1);
                Due.is(a + " or " + b, paid("pay " + a + " or " + b + ";"), 1);
            }
        }
        Due.is("0 and 0", paid("pay 0 and 0;"), 0);
        Due.is("0 or 0", paid("pay 0 or 0;"), 0);
        Due.is("not 0", paid("pay not 0;"), 1);
        Due.is("bits do not matter", paid("pay 1 and 2;"), 1);
        Due.is("not of all of its test", paid("pay not 0<1;"), 0);
        Due.is("not of all of its test", paid("pay not 2=0;"), 1);
        Due.is("not of all of its sum", paid("pay not 0+5;"), 0);
        Due.is("not of its test alone", paid("pay not 1 or 1;"), 1);
        Due.is("not of its test alone", paid("pay not 0 and 0;"), 0);
        Due.is("a not to the right", paid("pay 1 and not 0;"), 1);
    }

    private static void firstFault() {
        Due.says("FAULTS, the first along the text, at a TOKEN's first byte");
        law("call x;pay 123456;#", 3, 5);
        law("call 123456;pay x;#", 2, 5);
        law("#call x;pay 123456;", 1, 0);
        law("call 1;pay wood + xyz;pay abc;", 3, 18);
        law("call 1;pay wood\n+\n  xyzzy", 3, 20);
        law("pay ((((((1))))));#", 2, 10);
        law("pay # ((((((1))))));", 1, 4);
        law("pay 1;".repeat(12) + "pay x;", 2, 72);
        law("pay 1;".repeat(11) + "pay x;pay 1;", 3, 70);
        // Also where the whole text is longer than what is read of it.
        law("call 123456 x", 2, 5);
    }

    private static final String[] TOKENS = {"call", "pay", "and", "or", "not", "ward", "fires", "x", "7", "12345",
        "123456", "(", ")", ";", "+", "-", "*", "<", "=", "#", ""};

    /** What each TOKEN is behind such a text: '.' it can stand, else its FAULT; the last is the end. */
    private static void behind(String text, String due) {
        for (int i = 0; i < TOKENS.length; i++) {
            String whole = text + TOKENS[i];
            int fault = due.charAt(i) - '0';
            if (due.charAt(i) == '.') {
                boolean isWhole = TOKENS[i].equals(";") || TOKENS[i].isEmpty();
                law(whole, isWhole ? NO_FAULT : 1, whole.length());
            } else {
                law(whole, fault, text.length());
                law(whole + " ", fault, text.length() + (TOKENS[i].isEmpty() ? 1 : 0));
            }
        }
    }

    private static void cannotStand() {
        Due.says("1 a TOKEN that can't stand there, or is none");
        //                 call pay and or not ward fires x 7 12345 123456 ( ) ; + - * < = # end
        String rule   = "..111111111111111111.";
        String expr   = "3333...3..2.111111111";
        String part   = "33333..3..2.111111111";
        String joint  = "11..111111111......11";
        String tested = "11..111111111....1111";
        String within = "11..11111111.1.....11";
        String deep   = "11..11111111.1...1111";
        behind("", rule);
        behind(" \n", rule);
        behind("call 1;", rule);
        behind("pay 1;".repeat(11), rule);
        behind("call ", expr);
        behind("pay ", expr);
        behind("call 1 and ", expr);
        behind("call 1 or ", expr);
        behind("call (", expr);
        behind("call (((((", expr);
        behind("call 1<2 and ", expr);
        behind("call not ", part);
        behind("call 1<", part);
        behind("call 1=", part);
        behind("call 1+", part);
        behind("call 1-", part);
        behind("call 1*", part);
        behind("call 1<2+", part);
        behind("call 1 and not ", part);
        behind("call 1 ", joint);
        behind("call ward ", joint);
        behind("call (1)", joint);
        behind("call not 1 ", joint);
        behind("call 1+2 ", joint);
        behind("call 1 and 2 ", joint);
        behind("call 1<2 and 3 ", joint);
        behind("call 1<2 ", tested);
        behind("call 1=2 ", tested);
        behind("call not 1=2+3 ", tested);
        behind("call (1 ", within);
        behind("call ((1) ", within);
        behind("call 1<(2 ", within);
        behind("call (1<2 ", deep);
        behind("call 1<(2=3 ", deep);
    }

    private static void endsTooSoon() {
        Due.says("(the text's length where it ends too soon)");
        String[] texts = {"call", "pay", "call 1", "call not", "call 1<", "call 1 and", "call (", "call (1", "call 1+",
            "call 1;pay", "call ((((((", "pay 1;pay 2"};
        for (String text : texts) {
            law(text, 1, text.length());
            law(text + " ", 1, text.length() + 1);
            law(text + "\n \n", 1, text.length() + 3);
            law(text + " ".repeat(400 - text.length()), 1, 400);
        }
    }

    private static void longNumbers() {
        Due.says("2 one that can, but is too much: a NUMBER of 6 digits or more");
        for (int digits = 1; digits <= 12; digits++) {
            String number = "1".repeat(digits);
            law("call " + number + ";", digits <= 5 ? NO_FAULT : 2, 5);
            law("call 1+" + number + ";", digits <= 5 ? NO_FAULT : 2, 7);
            law("call 1=" + number + ";", digits <= 5 ? NO_FAULT : 2, 7);
            law("call not " + number + ";", digits <= 5 ? NO_FAULT : 2, 9);
        }
        law("call 000000;", 2, 5);
        law("call " + "9".repeat(394) + ";", 2, 5);
        law("call 4294967297;", 2, 5);
        // Where no number can stand it is not too much, but out of place.
        law("call 1 123456;", 1, 7);
        law("123456", 1, 0);
        law("call (1) 123456;", 1, 9);
    }

    private static void thirteenthRule() {
        Due.says("the first TOKEN of the 13th RULE");
        String[] rules = {"pay 1;", "call 1;"};
        for (String rule : rules) {
            String twelve = rule.repeat(12);
            int length = twelve.length();
            law(twelve);
            law(twelve + " \n");
            law(twelve + "pay 1;", 2, length);
            law(twelve + "call 1;", 2, length);
            law(twelve + "\n pay", 2, length + 2);
            law(twelve + "x", 1, length);
            law(twelve + "ward", 1, length);
            law(twelve + ";", 1, length);
            law(twelve + "1", 1, length);
            law(twelve + "123456", 1, length);
            law(twelve + "#", 1, length);
            law(rule.repeat(13), 2, length);
            law(rule.repeat(20), 2, length);
            law(rule.repeat(11) + "pay", 1, rule.length() * 11 + 3);
        }
    }

    private static void withinSixOthers() {
        Due.says("of an EXPR within 6 others");
        for (int within = 0; within <= 9; within++) {
            String text = "call " + "(".repeat(within) + "1" + ")".repeat(within) + ";";
            law(text, within <= 5 ? NO_FAULT : 2, 11);
        }
        behind("call ((((((", "333322232222111111111");
        behind("call ((((( (", "333322232222111111111");
        // As deep on the right of anything, and again when some have been closed.
        law("call 1+(((((1)))));");
        law("call 1+((((((1))))));", 2, 13);
        law("call 1<(((((1)))));");
        law("call 1<((((((1))))));", 2, 13);
        law("call not (((((not 1)))));");
        law("call not ((((((not 1))))));", 2, 15);
        law("call 1 and (((((1)))));");
        law("call 1 and ((((((1))))));", 2, 17);
        law("call (((((1)))))+(((((2)))))*(((((3)))));");
        // As much as can wait for what is within: an and, a test and a sum in each.
        String deep = "1";
        for (int i = 0; i < 6; i++) {
            deep = "1 and 7=3+" + (i == 0 ? "4" : "(" + deep + ")*3+1");
        }
        Due.is("the deepest", paid("pay " + deep.replace("7=3+(", "13=3+(") + ";"), 1);
        law("call (((((1)+(2)))));");
        law("call (((((1)+((2))))));", 2, 15);
    }

    private static void noNames() {
        Due.says("3 a word, where a NAME can stand, that is no NAME.");
        String[] names = {"ward", "wood", "fuel", "own", "men", "far", "hour", "fires"};
        String[] places = {"call ", "call not ", "pay 1+", "pay 1<", "call 1 and ", "call ("};
        for (String place : places) {
            for (String name : names) {
                String end = place.endsWith("(") ? ");" : ";";
                law(place + name + end);
                law(place + name + "s" + end, 3, place.length());
                law(place + name.substring(1) + end, 3, place.length());
                law(place + name.substring(0, name.length() - 1) + end, 3, place.length());
                law(place + name + name + end, 3, place.length());
            }
            law(place + "call;", 3, place.length());
            law(place + "pay;", 3, place.length());
            law(place + "and;", 3, place.length());
            law(place + "or;", 3, place.length());
        }
        law("call 1 wards;", 1, 7);
        law("wards", 1, 0);
        law("call 1;wards", 1, 7);
    }

    private static void called() {
        Due.says("A COMPANY is CALLED to a HOUSE, if some 'call' isn't 0");
        Due.yes("1", calls("call 1;"));
        Due.no("0", calls("call 0;"));
        Due.yes("below 0", calls("call 0-1;"));
        Due.yes("the least", calls("call " + LEAST + ";"));
        Due.no("wrapped to 0", calls("call 65536*65536;"));
        Due.yes("the first", calls("call 1;" + "call 0;".repeat(11)));
        Due.yes("the last", calls("call 0;".repeat(11) + "call 1;"));
        Due.no("none", calls("call 0;".repeat(12)));
        Due.yes("not their sum", calls("call 1;call 0-1;"));
        Due.yes("nor their product", calls("call 0;call 1;call 0;"));
        Due.no("a pay is no call", calls("pay 1;"));
        Due.no("no rules", calls(""));
    }

    private static void withoutLaw() {
        Due.says("without a LAW in force, if the WARDS are one.");
        for (int ward = 0; ward < 8; ward++) {
            FireWards x = new FireWards(0, 0);
            x.house(0, 9, ward);
            for (int i = 0; i < 8; i++) {
                x.company(i, 1, 0);
            }
            Due.is("one company", x.light(0), 1);
            Due.is("that of ward " + ward, x.of(ward, 3), 0);
        }
        // A law of a later day is not in force; an empty one is, and calls nobody.
        FireWards y = new FireWards(1, 0);
        y.house(0, 9, 2);
        y.house(1, 9, 2);
        y.company(2, 1, 0);
        Due.law(y, "call 0;", 1);
        Due.is("not yet in force", y.light(0), 1);
        FireWards z = new FireWards(1, 0);
        z.house(0, 9, 2);
        z.company(2, 1, 0);
        z.law(0, 0);
        Due.is("an empty law", z.light(0), 0);
    }

    private static void pay() {
        Due.says("Its PAY for it is the sum of all 'pay's; without a LAW in force 1.");
        Due.is("no pays", paid(""), 0);
        Due.is("a call is no pay", paid("call 5;"), 0);
        Due.is("one", paid("pay 5;"), 5);
        Due.is("twelve", paid("pay 5;".repeat(12)), 60);
        Due.is("between calls", paid("pay 1;call 1;pay 10;call 0;pay 100;"), 111);
        Due.is("below nought", paid("pay 5;pay 0-7;"), -2);
        FireWards x = new FireWards(1, 0);
        x.house(0, 1, 0);
        x.company(0, 4, 1);
        Due.law(x, "pay 77;", 1);
        for (int i = 1; i <= 3; i++) {
            x.light(0);
            x.hours(1);
            Due.is("without a law in force", x.of(0, 5), i);
        }
        x.hours(21);
        x.light(0);
        x.send(0, 0);
        x.hours(1);
        Due.is("with one", x.of(0, 5), 80);
    }

    private static void twentyBytes() {
        Due.says("Twenty bytes come behind the tape, of each number the highest first: how many it has");
        FireWards x = new FireWards(1, 0);
        x.house(0, 1, 0);
        x.company(0, 4, 1);
        // "pay " "1+2*" "3-4*" "5+6+" "7+8;" is 46.
        Due.is("feed", x.feed(0x70617920, 0x312b322a, 0x332d342a, 0x352b362b, 0x372b383b), 20);
        Due.is("law", x.law(20, 0), 0);
        x.light(0);
        x.send(0, 0);
        x.hours(1);
        Due.is("pay", x.of(0, 5), 46);
        // The second twenty go on where the first end: "pay " and 15 blanks and "1" + "2;".
        Due.is("feed", x.feed(0x70617920, 0x20202020, 0x20202020, 0x20202020, 0x20202031), 20);
        Due.is("feed", x.feed(0x323b2020, 0x20202020, 0x20202020, 0x20202020, 0x20202020), 40);
        Due.is("law", x.law(40, 0), 1);
        x.light(0);
        x.send(0, 0);
        x.hours(1);
        Due.is("pay", x.of(0, 5), 46 + 12);
        // Each byte by itself, the least and the greatest too.
        for (int place = 0; place < 20; place++) {
            for (int b : new int[] {0, 1, 127, 128, 255}) {
                byte[] bytes = " ".repeat(20).getBytes();
                bytes[place] = (byte) b;
                Due.feed(x, bytes);
                Due.is("byte " + b + " at " + place, x.law(20, 0), -2);
                Due.is("byte " + b + " at " + place, x.fault(), place);
            }
        }
    }

    private static void fullTape() {
        Due.says("NONE, and none come, if it would have more than 400.");
        FireWards x = new FireWards(0, 0);
        int blanks = 0x20202020;
        for (int i = 1; i <= 20; i++) {
            Due.is("feed", x.feed(blanks, blanks, blanks, blanks, blanks), 20 * i);
            Due.is("tape", x.count(8), 20 * i);
        }
        Due.is("a 21st", x.feed(0, 0, 0, 0, 0), FireWards.NONE);
        Due.is("a 22nd", x.feed(0, 0, 0, 0, 0), FireWards.NONE);
        Due.is("tape", x.count(8), 400);
        Due.illegal("no more bytes", () -> x.law(401, 0));
        Due.is("all are blanks", x.law(400, 0), 0);
        Due.is("the tape is empty", x.count(8), 0);
        Due.is("feed", x.feed(blanks, blanks, blanks, blanks, blanks), 20);
    }

    private static void firstBytes() {
        Due.says("The tape's first n bytes (it is empty then)");
        String text = "call 12345;pay wards;";
        int[] fault = {0, 1, 1, 1, 1, 1, 1, 1, 1, 1, 1, 0, 1, 1, 1, 1, 3, 3, 3, 1, 3, 3};
        int[] place = {-1, 0, 0, 0, 4, 5, 6, 7, 8, 9, 10, -1, 11, 11, 14, 15, 15, 15, 15, 19, 15, 15};
        for (int n = 0; n <= text.length(); n++) {
            FireWards x = new FireWards(0, 0);
            Due.feed(x, text);
            Due.is("tape", x.count(8), 40);
            Due.is("first " + n, x.law(n, 0), fault[n] == 0 ? 0 : -1 - fault[n]);
            Due.is("place of " + n, x.fault(), place[n]);
            Due.is("the tape is empty", x.count(8), 0);
            Due.illegal("nothing is left", () -> x.law(1, 0));
            Due.is("but none is fine", x.law(0, 0), fault[n] == 0 ? 1 : 0);
        }
        // What stands behind the n bytes makes no number or word longer.
        String[] texts = {"call 123456;", "call ward;", "call wards;", "calls 1;", "call 12;", "pay 1 ;"};
        int[] lengths = {10, 8, 9, 4, 6, 6};
        int[] faults = {1, 3, 1, 1, 1, 1};
        int[] places = {10, 5, 9, 4, 6, 6};
        for (int i = 0; i < texts.length; i++) {
            FireWards x = new FireWards(0, 0);
            Due.feed(x, texts[i]);
            Due.is(texts[i], x.law(lengths[i], 0), -1 - faults[i]);
            Due.is(texts[i] + " place", x.fault(), places[i]);
        }
        // What an earlier text left behind is not read again.
        FireWards y = new FireWards(0, 0);
        Due.feed(y, "#".repeat(400));
        Due.is("wrong", y.law(400, 0), -2);
        Due.feed(y, "pay 1;");
        Due.is("right", y.law(20, 0), 0);
    }

    private static void days() {
        Due.says("are a LAW from a DAY (0 to 100) on");
        FireWards x = new FireWards(0, 0);
        for (int day : new int[] {MIN, -100, -1, 101, 102, 200, 256, MAX}) {
            Due.illegal("day " + day, () -> x.law(0, day));
            Due.is("no law", x.count(6), 0);
        }
        int[] days = {100, 99, 50, 1, 0};
        for (int i = 0; i < days.length; i++) {
            Due.is("day " + days[i], x.law(0, days[i]), i);
        }
        Due.is("today's", x.count(9), 4);
    }

    private static void thereAreSix() {
        Due.says("-9: there are 6.");
        FireWards x = new FireWards(0, 0);
        for (int i = 0; i < 5; i++) {
            x.law(0, 0);
        }
        Due.is("a fault, there are 5", Due.law(x, "pay x;", 0), -4);
        Due.is("the sixth", Due.law(x, "pay 1;", 0), 5);
        String[] texts = {"pay 1;", "", "pay x;", "pay", "#", "pay 123456;"};
        for (String text : texts) {
            Due.is("there are 6", Due.law(x, text, 0), -9);
            Due.is("no fault", x.fault(), FireWards.NONE);
            Due.is("the tape is empty", x.count(8), 0);
            Due.is("laws", x.count(6), 6);
        }
    }

    private static void wrongLaws() {
        Due.says("IllegalArgumentException: the tape has not so many, n below 0, no such DAY (nothing changes).");
        FireWards x = new FireWards(0, 0);
        Due.illegal("nothing is there", () -> x.law(1, 0));
        Due.is("none is fine", x.law(0, 0), 0);
        Due.is("a fault", Due.law(x, " x", 0), -2);
        Due.feed(x, "pay 1;pay 2;pay 3; ;pay 4;");
        for (int n : new int[] {MIN, -400, -1, 41, 42, 400, 401, MAX}) {
            Due.illegal("n " + n, () -> x.law(n, 0));
            Due.illegal("n " + n + ", no such day too", () -> x.law(n, 101));
        }
        Due.illegal("day -1", () -> x.law(6, -1));
        Due.illegal("day 101", () -> x.law(6, 101));
        Due.is("the tape stays", x.count(8), 40);
        Due.is("the fault stays", x.fault(), 1);
        Due.is("the laws stay", x.count(6), 1);
        Due.is("the text stays", x.law(40, 100), -2);
        Due.is("there", x.fault(), 19);
        Due.feed(x, "pay 1;");
        Due.is("the last byte too", x.law(20, 0), 1);
        // Also when there are six.
        for (int i = 2; i < 6; i++) {
            x.law(0, 0);
        }
        Due.feed(x, "pay 1;");
        Due.illegal("n 21", () -> x.law(21, 0));
        Due.illegal("n -1", () -> x.law(-1, 0));
        Due.illegal("day 101", () -> x.law(0, 101));
        Due.illegal("day -1", () -> x.law(0, -1));
        Due.is("the tape stays", x.count(8), 20);
    }

    private static void faultPlaces() {
        Due.says("The place of the latest law()'s FAULT; NONE without.");
        FireWards x = new FireWards(0, 0);
        Due.is("no law yet", x.fault(), FireWards.NONE);
        Due.law(x, "#", 0);
        Due.is("the least place", x.fault(), 0);
        Due.is("it stays", x.fault(), 0);
        Due.law(x, " ".repeat(399) + "#", 0);
        Due.is("the last byte", x.fault(), 399);
        Due.law(x, "pay 1" + " ".repeat(395), 0);
        Due.is("the longest text's end", x.fault(), 400);
        x.hours(1);
        x.feed(0, 0, 0, 0, 0);
        Due.is("it stays through other calls", x.fault(), 400);
        x.law(0, 0);
        Due.is("none of a law without", x.fault(), FireWards.NONE);
        for (int place = 0; place < 400; place++) {
            FireWards y = new FireWards(0, 0);
            Due.law(y, " ".repeat(place) + "x", 0);
            Due.is("place", y.fault(), place);
        }
    }
}
