/** Promises 7 to 9: feed, text, force; the grammar, its faults and what texts tell. */
public final class TextsTest {
    private static final String REST = "; strong 2; eases 3;";

    public static void main(String[] args) {
        feeding();
        numbersOfTexts();
        forcing();
        faults();
        tokenFaults();
        openFaults();
        wellFormed();
        values();
        names();
        bounds();
        Due.end();
    }

    private static void feeding() {
        NobodyCanLiftIt x = new NobodyCanLiftIt();
        for (int letter : new int[] {-1, 256, Integer.MAX_VALUE, Integer.MIN_VALUE}) {
            Due.is("no byte", x.feed(letter), -2);
        }
        Due.is("nothing came", x.count(4), 0);
        Due.is("0", x.feed(0), 1);
        Due.is("255", x.feed(255), 2);
        for (int i = 3; i <= 160; i++) {
            Due.is("feed", x.feed(32), i);
        }
        Due.is("full", x.feed(32), -4);
        Due.is("bad ahead of full", x.feed(256), -2);
        Due.is("bytes", x.count(4), 160);
        Due.is("fault at byte 0", x.text(), -100);
        Due.is("empty", x.count(4), 0);
        Due.is("feeds again", x.feed(32), 1);
    }

    private static void numbersOfTexts() {
        NobodyCanLiftIt x = new NobodyCanLiftIt();
        for (int i = 1; i <= 5; i++) {
            Due.is("a fault takes no number", Due.read(x, "feels"), -105);
            Due.is("its number", Due.read(x, "feels 1" + REST), i);
            Due.is("texts", x.count(3), i + 1);
            Due.is("the tape is empty", x.count(4), 0);
        }
        Due.is("full, with an empty tape", x.text(), -4);
        Due.is("full, with a fault", Due.read(x, "oh"), -4);
        Due.is("the tape stays", x.count(4), 2);
        Due.is("texts stay", x.count(3), 6);
        Due.is("the rule stays", x.count(5), 0);
    }

    private static void forcing() {
        NobodyCanLiftIt x = new NobodyCanLiftIt();
        x.person(0, 0, 50);
        Due.is("no text 1 yet", x.force(1), -2);
        Due.read(x, "feels 20; strong 30; eases 40;");
        for (int text : new int[] {-1, 2, 6, Integer.MAX_VALUE, Integer.MIN_VALUE}) {
            Due.is("no such text", x.force(text), -2);
        }
        Due.is("the rule is still 0", x.count(5), 0);
        Due.is("not by itself", x.feels(0, 0), 10);
        Due.is("which was", x.force(1), 0);
        Due.is("the rule", x.count(5), 1);
        Due.is("feels", x.feels(0, 0), 20);
        Due.is("strong", x.told(0, 8), 30);
        Due.is("eases", x.told(0, 9), 40);
        Due.is("the same again", x.force(1), 1);
        Due.is("back to the first", x.force(0), 1);
        Due.is("feels as at first", x.feels(0, 0), 10);
        Due.is("strong as at first", x.told(0, 8), 50);
        Due.is("eases as at first", x.told(0, 9), 1);
    }

    private static void fault(String tape, int place) {
        Due.is("text of \"" + tape + "\"", Due.read(new NobodyCanLiftIt(), tape), -100 - place);
    }

    /** The fault is in the first E, at the place that is counted from its own first byte. */
    private static void faultIn(String e, int place) {
        fault("feels " + e + REST, 6 + place);
    }

    private static void faults() {
        fault("", 0);
        fault("   ", 3);
        fault("\n", 1);
        fault("strong 1; feels 1; eases 1;", 0);
        fault("feels", 5);
        fault("feels  ", 7);
        fault("feels 1", 7);
        fault("feels 1 \n ", 10);
        fault("feels 1;", 8);
        fault("feels 1; eases 1;", 9);
        fault("feels 1; strong 1; strong 1;", 19);
        fault("feels 1; strong 1; eases 1", 26);
        fault("feels 1; strong 1; eases 1;;", 27);
        fault("feels 1; strong 1; eases 1; 1", 28);
        fault("feels 1; strong 1; eases 1; x", 28);
        fault("feels 1; strong 1; eases 1; !", 28);
        fault("feels ; strong 1; eases 1;", 6);
        faultIn("1 2", 2);
        faultIn("1 age", 2);
        faultIn("1 feels", 2);
        faultIn("or 1", 0);
        faultIn("1 or", 4);
        faultIn("1 or or 1", 5);
        faultIn("1 and or 1", 6);
        faultIn("+ 1", 0);
        faultIn("* 1", 0);
        faultIn("1 + * 1", 4);
        faultIn("1 < 2 < 3", 6);
        faultIn("1 = 2 = 3", 6);
        faultIn("1 < = 3", 4);
        faultIn("not 1 < 2 = 3", 10);
        faultIn("1 + not 2", 4);
        faultIn("1 < not 2", 4);
        faultIn("- not 2", 2);
        faultIn("1 * not 2", 4);
        faultIn("1 not 2", 2);
        faultIn("(1", 2);
        faultIn("1)", 1);
        faultIn("()", 1);
        faultIn("(1;)", 2);
        faultIn("strong", 0);
        faultIn("1 strong", 2);
    }

    private static void tokenFaults() {
        faultIn("ages", 0);
        faultIn("agez", 0);
        faultIn("aage", 0);
        faultIn("age z", 4);
        faultIn("Age", 0);
        faultIn("aGe", 0);
        faultIn("1 orage", 2);
        faultIn("1 ornot 1", 2);
        faultIn("numbers", 0);
        faultIn("12345", 0);
        faultIn("00000", 0);
        faultIn("1 + 00001", 4);
        faultIn("1 > 2", 2);
        faultIn("1\t+ 2", 1);
        faultIn("1\r", 1);
        faultIn("1 " + (char) 233, 2);
        faultIn("1 " + (char) 0, 2);
        faultIn("1,5", 1);
        // The earlier fault is told, of whatever sort it is.
        faultIn("1 1 !", 2);
        faultIn("! 1 1", 0);
        faultIn("12345 !", 0);
        faultIn("1 2 12345", 2);
    }

    private static void openFaults() {
        faultIn("((((((1))))))", 5);
        faultIn("------1", 5);
        faultIn("not not not not not not 1", 20);
        faultIn("not ( - ( - - 1 ) )", 12);
        faultIn("not ( - ( - ( 1 ) ) )", 12);
        faultIn("(((((-1)))))", 5);
        faultIn("(((((not 1)))))", 5);
        faultIn("not not not not not (1)", 20);
        faultIn("not not not not not - 1", 20);
        faultIn("not not not not not 1 < - 1", 24);
        faultIn("not not not not not 1 and not not not not not not 1", 46);
        faultIn("not (1 + 1 * (2 - (- 1 - - (2))))", 27);
    }

    private static void good(String e) {
        Due.is("text with \"" + e + "\"", Due.read(new NobodyCanLiftIt(), "feels " + e + REST), 1);
    }

    private static void wellFormed() {
        good("(((((1)))))");
        good("-----1");
        good("----- 1 - 1 - -----1");
        good("not not not not not 1");
        good("not not not not not 1 and not not not not not 1 or not not not not not 1");
        good("(((((1))))) + (((((1)))))");
        good("not (1 + 1 * (2 - (- 1 - - 2)))");
        good("(1<2)<(1=2)");
        good("0000");
        good("9999");
        good("1or 2and 3");
        good("age+number*floor-year<ease=0".replace("=0", ""));
        Due.is("no blanks", Due.read(new NobodyCanLiftIt(), "feels1;strong1;eases1;"), 1);
        Due.is("many blanks", Due.read(new NobodyCanLiftIt(), " \n feels \n 1 ; \n strong 1 ;\neases 1 \n ; \n"), 1);
        String whole = "feels 1" + "+1".repeat(66) + REST + " ";
        Due.is("a full tape is 160 bytes", whole.length(), 160);
        Due.is("a full tape", Due.read(new NobodyCanLiftIt(), whole), 1);
    }

    /** What one feels by this E: NUMBER 3, AGE 20, EASE 7, the sword on floor 4, YEAR 6, two others here. */
    private static void tells(String e, int want) {
        NobodyCanLiftIt x = new NobodyCanLiftIt();
        x.person(5, 3, 20);
        x.person(0, 0, 0);
        x.person(0, 0, 0);
        x.person(0, 0, 0);
        x.set(5, 0, 7);
        x.set(6, 2, 0);
        x.set(1, 0, 4);
        x.set(2, 0, 6);
        x.set(0, 4, 0);
        Due.is("reads " + e, Due.read(x, "feels " + e + "; strong " + e + "; eases " + e + ";"), 1);
        x.force(1);
        Due.is("feels " + e, x.feels(0, 0), want);
        Due.is("strong " + e, x.told(0, 8), want);
        Due.is("eases " + e, x.told(0, 9), want);
    }

    private static void values() {
        tells("1 + 2 * 3", 7);
        tells("(1 + 2) * 3", 9);
        tells("10 - 3 - 2", 5);
        tells("10 - (3 - 2)", 9);
        tells("2 - -3", 5);
        tells("2 * -3 + 7", 1);
        tells("- 2 + 3", 1);
        tells("-2 * -3", 6);
        tells("--5", 5);
        tells("-(2 - 9)", 7);
        tells("1 < 2", 1);
        tells("2 < 2", 0);
        tells("2 < 1", 0);
        tells("2 = 2", 1);
        tells("2 = 3", 0);
        tells("1 + 1 = 2", 1);
        tells("-1 < 0", 1);
        tells("3 or 0", 1);
        tells("0 or 0", 0);
        tells("0 or 5", 1);
        tells("3 and 4", 1);
        tells("3 and 0", 0);
        tells("0 and 3", 0);
        tells("1 or 0 and 0", 1);
        tells("(1 or 0) and 0", 0);
        tells("not 0", 1);
        tells("not 7", 0);
        tells("not -1", 0);
        tells("not not 7", 1);
        tells("not 1 + 1", 0);
        tells("not 1 = 2", 1);
        tells("not 0 and 0", 0);
        tells("not (0 and 0)", 1);
        tells("not 1 or 1", 1);
        tells("5 + (1 < 2) * 3", 8);
        // 9999 ^ 3 is 999700029999, of which -1027349969 is left in 32 bits.
        tells("9999*9999*9999 < 0", 1);
        NobodyCanLiftIt x = new NobodyCanLiftIt();
        x.force(Due.read(x, "feels 9999*9999*9999 + 9999*9999*10 + 2754*9999 + 9999 + 2720; strong 0; eases 0;"));
        x.person(5, 0, 0);
        Due.is("wrapped exactly", x.feels(0, 0), 6);
        tells("65 + (2048*1024*1024*2 = 0)", 66);
        tells("65 + (2048*1024*1024 < 0)", 66);
        tells("0 - 2048*1024*1024 - 1 - 2048*1024*1024 + 9", 8);
    }

    private static void names() {
        tells("age", 20);
        tells("number", 3);
        tells("floor", 4);
        tells("year", 6);
        tells("ease", 7);
        tells("others", 2);
        NobodyCanLiftIt x = new NobodyCanLiftIt();
        Due.read(x, "feels others; strong others; eases others;");
        x.force(1);
        x.person(5, 0, 0);
        Due.is("nobody else", x.feels(0, 0), 0);
        x.person(5, 0, 0);
        Due.is("one other", x.feels(0, 0), 1);
        x.set(6, 0, 0);
        Due.is("one other, not being here", x.feels(0, 0), 1);
        Due.is("nobody else is here", x.feels(1, 0), 0);
        NobodyCanLiftIt r = new NobodyCanLiftIt();
        Due.read(r, "feels floor; strong 0; eases 0;");
        r.force(1);
        r.person(5, 0, 0);
        r.set(1, 0, 10);
        Due.is("the rock is 10", r.feels(0, 0), 10);
    }

    private static void bounds() {
        tells("99", 99);
        tells("100", 99);
        tells("9999", 99);
        tells("0", 0);
        tells("-1", 0);
        tells("0 - 9999", 0);
        tells("2047*1024*1024", 99);
    }
}
