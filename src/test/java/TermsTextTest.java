/** Terms, part 1, THE TAPE to the names: what each sentence names as a bound, one test for each. */
public final class TermsTextTest {
    private static final int BAD = NobodyCanLiftIt.BAD, FULL = NobodyCanLiftIt.FULL;
    private static final String REST = "; strong 0; eases 0;";

    public static void main(String[] args) {
        tapeHolds160Bytes();
        textOf160Bytes();
        wordsAreAsLongAsCanBe();
        everyLetterOfAWordCounts();
        tokensEndWithTheTape();
        wordsAreOfSmallLetters();
        numbersAreAsLongAsCanBe();
        numbersHaveFourDigitsAtMost();
        signsStandForThemselves();
        blanksMayStandBetween();
        noBlankStandsWithin();
        noOtherByteIsABlank();
        partsStandInTheirOrder();
        orsAndAndsMayBeNoneOrMany();
        comparedOnceAtMost();
        sumsAndTermsMayBeOneOrMany();
        keysStandInTheirPlacesAlone();
        faultAtTheFirstByteOfAToken();
        faultAtTheTextsSize();
        faultAtAByteThatBeginsNone();
        faultAtAnUnknownWord();
        faultAtTheEarliest();
        fiveBracketsAreOpen();
        fiveNotsAreOpen();
        fiveMinusesAreOpen();
        allThreeAreCountedTogether();
        openTillTheyEnd();
        textsAreSix();
        textZero();
        aFaultTakesNoNumber();
        forcedAtTheirBounds();
        namesAtTheirBounds();
        othersAtTheirBounds();
        toldWithinBounds();
        anIntWraps();
        trueIsWhatIsNotZero();
        Due.end();
    }

    private static int text(String tape) {
        return Due.read(new NobodyCanLiftIt(), tape);
    }

    private static void good(String e) {
        Due.is("a text with \"" + e + "\"", text("feels " + e + REST), 1);
    }

    private static void fault(String tape, int place) {
        Due.is("text() of \"" + tape + "\"", text(tape), -100 - place);
    }

    /** Places are counted from the first byte of the E. */
    private static void faultIn(String e, int place) {
        fault("feels " + e + REST, 6 + place);
    }

    /** What an E tells of an engineer of NUMBER 0, alone, at first. */
    private static void tells(String e, int want) {
        NobodyCanLiftIt x = Due.by(e, "0", "0");
        x.person(5, 0, 0);
        Due.is(e, x.feels(0, 0), want);
    }

    /** A TEXT is read from THE TAPE (160 bytes at most). */
    private static void tapeHolds160Bytes() {
        NobodyCanLiftIt x = new NobodyCanLiftIt();
        for (int i = 1; i <= 160; i++) {
            Due.is("feed", x.feed(' '), i);
        }
        Due.is("the 161st", x.feed(' '), FULL);
        Due.is("no byte", x.feed(256), BAD);
        Due.is("bytes", x.count(4), 160);
        Due.is("blanks alone end too early", x.text(), -260);
        Due.is("it is empty then", x.feed(' '), 1);
    }

    /** A TEXT that fills THE TAPE, with its last sign or without. */
    private static void textOf160Bytes() {
        String whole = "feels 0" + "+1".repeat(66) + "+(1)" + ";strong 0;eases 0";
        Due.is("159 bytes and the last", whole.length(), 160);
        fault(whole, 160);
        String less = "feels 0" + "+1".repeat(66) + "+11" + ";strong 0;eases 0;";
        NobodyCanLiftIt x = new NobodyCanLiftIt();
        Due.feed(x, less);
        Due.is("bytes", x.count(4), 160);
        Due.is("the 161st has no room", x.feed(';'), FULL);
        Due.is("a text", x.text(), 1);
        x.force(1);
        x.person(5, 0, 0);
        Due.is("66 and 11", x.feels(0, 0), 77);
    }

    /** TOKENS, each as long as can be: WORDS (a .. z). */
    private static void wordsAreAsLongAsCanBe() {
        faultIn("agefloor", 0);
        faultIn("agez", 0);
        faultIn("agea", 0);
        faultIn("age1 + 2", 3);
        faultIn("eas", 0);
        faultIn("easeage", 0);
        faultIn("easeof", 0);
        faultIn("otherss", 0);
        faultIn("1 or not1 notage", 10);
        faultIn("1 orage", 2);
        fault("feelsage; strong 0; eases 0;", 0);
        fault("feel 1; strong 0; eases 0;", 0);
        fault("feelss 1; strong 0; eases 0;", 0);
        good("1or not 1and 1");
        good("(age)or(ease)");
        Due.is("without a blank", text("feels1;strong1;eases1;"), 1);
    }

    /** FAULT: a WORD that is neither KEY nor NAME: be it by one letter, whichever, left out or otherwise. */
    private static void everyLetterOfAWordCounts() {
        for (String name : new String[] {"age", "number", "floor", "year", "ease", "others"}) {
            good(name);
            for (String word : spoilt(name)) {
                faultIn(word, 0);
            }
        }
        String[] keys = {"feels", "strong", "eases", "or", "and", "not"};
        String[] texts = {"feels 1; strong 1; eases 1;", "feels 1; strong 1; eases 1;", "feels 1; strong 1; eases 1;",
            "feels 1 or 1; strong 1; eases 1;", "feels 1 and 1; strong 1; eases 1;", "feels not 1; strong 1; eases 1;"};
        for (int i = 0; i < keys.length; i++) {
            int place = texts[i].indexOf(keys[i]);
            Due.is(texts[i], text(texts[i]), 1);
            for (String word : spoilt(keys[i])) {
                fault(texts[i].replace(keys[i], word), place);
            }
        }
    }

    /** A word with each of its letters left out, or one more or one less. */
    private static String[] spoilt(String word) {
        String[] all = new String[3 * word.length()];
        for (int i = 0; i < word.length(); i++) {
            String ahead = word.substring(0, i);
            String behind = word.substring(i + 1);
            all[3 * i] = ahead + (char) (word.charAt(i) == 'z' ? 'y' : word.charAt(i) + 1) + behind;
            all[3 * i + 1] = ahead + (char) (word.charAt(i) == 'a' ? 'b' : word.charAt(i) - 1) + behind;
            all[3 * i + 2] = ahead + behind;
        }
        return all;
    }

    /** A TOKEN whose last byte is the tape's 160th is whole: the text ends too early behind it, or it is the fault. */
    private static void tokensEndWithTheTape() {
        for (String token : new String[] {"age", "others", "7", "9999", "not", "("}) {
            fault("feels " + " ".repeat(154 - token.length()) + token, 160);
        }
        for (String token : new String[] {"or", "and"}) {
            fault("feels 1" + " ".repeat(153 - token.length()) + token, 160);
        }
        for (String token : new String[] {"agf", "feels", "strong", "eases", "12345", ")", ";", "+", "?", "x"}) {
            fault("feels " + " ".repeat(154 - token.length()) + token, 160 - token.length());
        }
        fault(" ".repeat(155) + "feels", 160);
        fault("feels 1;" + " ".repeat(146) + "strong", 160);
        fault("feels 1; strong 1;" + "\n".repeat(137) + "eases", 160);
        Due.is("the last sign", text("feels 1; strong 1; eases 1" + " ".repeat(133) + ";"), 1);
    }

    /** WORDS (a .. z): a large letter begins no TOKEN, nor do the bytes beside a and z. */
    private static void wordsAreOfSmallLetters() {
        for (char c : new char[] {'A', 'Z', '`', '{', '@', '['}) {
            faultIn(c + "", 0);
            faultIn("age" + c, 3);
            faultIn("age " + c, 4);
        }
        fault("Feels 1; strong 0; eases 0;", 0);
        good("year + number");
    }

    /** NUMBERS (as many digits as stand there). */
    private static void numbersAreAsLongAsCanBe() {
        tells("12", 12);
        tells("0012", 12);
        tells("1+2", 3);
        faultIn("1 2", 2);
        faultIn("12 3", 3);
        tells("9990 < 9991", 1);
        tells("1 < 0", 0);
        for (char c : new char[] {'/', ':'}) {
            faultIn(c + "", 0);
            faultIn("1" + c + "2", 1);
        }
    }

    /** NUMBERS (.. 4 at most); FAULT: a NUMBER that is too long. */
    private static void numbersHaveFourDigitsAtMost() {
        good("0000");
        good("9999");
        faultIn("00000", 0);
        faultIn("10000", 0);
        faultIn("1 + 00001 + 2", 4);
        faultIn("99999999999999999999", 0);
        faultIn("4294967297", 0);
        fault("feels 12345", 6);
        fault("12345", 0);
    }

    /** SIGNS ( ) ; + - * < =. */
    private static void signsStandForThemselves() {
        for (String sign : new String[] {"!", "\"", "#", "$", "%", "&", "'", ",", ".", "/", ":", ">", "?", "^", "_", "|",
            "~", "{", "}", "[", "]"}) {
            faultIn("1 " + sign + " 2", 2);
            faultIn(sign, 0);
        }
        faultIn("1 <= 2", 3);
        faultIn("1 == 2", 3);
        faultIn("1 =< 2", 3);
        faultIn("1 ** 2", 3);
        faultIn("1 ++ 2", 3);
        faultIn("1 -+ 2", 3);
        good("1--2");
        good("1*-2");
        good("1<-2");
        good("1=-2");
    }

    /** blanks (32, 10) may stand between. */
    private static void blanksMayStandBetween() {
        Due.is("none", text("feels(1);strong(1);eases(1);"), 1);
        Due.is("between all", text("feels ( 1 ) ; strong\n(\n1\n)\n;\neases 1 ;"), 1);
        Due.is("ahead and behind", text(" \n \n feels 1; strong 1; eases 1; \n \n"), 1);
        Due.is("many", text("feels" + " ".repeat(60) + "1" + "\n".repeat(60) + ";strong 1;eases 1;"), 1);
    }

    /** between: not within a TOKEN. */
    private static void noBlankStandsWithin() {
        fault("fe els 1; strong 0; eases 0;", 0);
        fault("feels 1; str ong 0; eases 0;", 9);
        faultIn("ag e", 0);
        faultIn("a\nge", 0);
        faultIn("1 1", 2);
        faultIn("1\n1", 2);
    }

    /** blanks are 32 and 10 alone: any other byte begins none. */
    private static void noOtherByteIsABlank() {
        int[] others = {0, 1, 8, 9, 11, 12, 13, 31, 33, 127, 128, 133, 160, 255};
        for (int c : others) {
            faultIn("1 " + (char) c + " + 2", 2);
            fault((char) c + "feels 1" + REST, 0);
            fault("feels 1" + REST + (char) c, 27);
        }
    }

    /** TEXT: feels E ; strong E ; eases E ;. */
    private static void partsStandInTheirOrder() {
        fault("strong 1; feels 1; eases 1;", 0);
        fault("eases 1; strong 1; feels 1;", 0);
        fault("feels 1; eases 1; strong 1;", 9);
        fault("feels 1; feels 1; eases 1;", 9);
        fault("feels 1; strong 1; feels 1;", 19);
        fault("feels 1; strong 1; eases 1; feels 1;", 28);
        fault("feels 1 strong 1; eases 1;", 8);
        fault("feels 1; strong 1 eases 1;", 18);
        fault("feels 1;; strong 1; eases 1;", 8);
        fault("; feels 1; strong 1; eases 1;", 0);
        fault("feels; strong 1; eases 1;", 5);
        fault("feels 1; strong; eases 1;", 15);
        fault("feels 1; strong 1; eases;", 24);
        fault("1", 0);
        fault("(", 0);
    }

    /** E: AND { or AND }. AND: NOT { and NOT }: none or many. */
    private static void orsAndAndsMayBeNoneOrMany() {
        tells("0 or 0 or 0 or 7", 1);
        tells("0 or 0 or 0 or 0", 0);
        tells("7 and 6 and 5 and 4", 1);
        tells("7 and 6 and 5 and 0", 0);
        tells("7 and 0 or 5 and 4", 1);
        tells("7 or 0 and 0", 1);
        tells("0 and 0 or 0 and 7", 0);
        tells("1 or 1 and 0", 1);
        faultIn("1 or", 4);
        faultIn("1 and", 5);
        faultIn("or 1", 0);
        faultIn("and 1", 0);
        faultIn("1 or or 1", 5);
        faultIn("1 and and 1", 6);
        faultIn("1 or and 1", 5);
        faultIn("1 and or 1", 6);
    }

    /** NOT: not NOT, or SUM, perhaps < or = and a SUM: once at most. */
    private static void comparedOnceAtMost() {
        tells("2 < 3", 1);
        tells("3 < 3", 0);
        tells("3 = 3", 1);
        tells("3 = 2", 0);
        tells("(3 < 2) = 0", 1);
        tells("1 < 2 or 3 = 4", 1);
        tells("not 1 = 2", 1);
        tells("not not 1 = 2", 0);
        tells("3 + 4 = 5 + 2", 1);
        faultIn("1 < 2 < 3", 6);
        faultIn("1 = 2 = 3", 6);
        faultIn("1 < 2 = 3", 6);
        faultIn("1 = 2 < 3", 6);
        faultIn("not 1 = 2 = 3", 10);
        faultIn("1 = not 2", 4);
        faultIn("1 + not 2", 4);
        faultIn("1 * not 2", 4);
        faultIn("- not 2", 2);
        faultIn("not", 3);
        faultIn("1 not", 2);
        faultIn("= 1", 0);
        faultIn("< 1", 0);
        faultIn("1 <", 3);
    }

    /** SUM: TERM { + or - TERM }. TERM: ONE { * ONE }. ONE: a NUMBER, a NAME, - ONE, ( E ). */
    private static void sumsAndTermsMayBeOneOrMany() {
        tells("9 - 3 - 2", 4);
        tells("9 - 3 + 2", 8);
        tells("9 - (3 + 2)", 4);
        tells("2 * 3 * 4", 24);
        tells("2 + 3 * 4", 14);
        tells("2 * 3 + 4", 10);
        tells("-2 * 3 + 9", 3);
        tells("-(2 * 3) + 9", 3);
        tells("9 - -3", 12);
        tells("--9", 9);
        tells("-0", 0);
        tells("(((9)))", 9);
        tells("(1 or 0) + 8", 9);
        faultIn("1 +", 3);
        faultIn("1 -", 3);
        faultIn("1 *", 3);
        faultIn("-", 1);
        faultIn("+ 1", 0);
        faultIn("* 1", 0);
        faultIn("()", 1);
        faultIn("(1", 2);
        faultIn("1)", 1);
        faultIn("(1))", 3);
        faultIn("(1;", 2);
        faultIn("(1 2)", 3);
        faultIn("1 (2)", 2);
        faultIn("age age", 4);
    }

    /** feels, strong, eases, or, and, not are KEYS: none is a NAME, none stands for another one. */
    private static void keysStandInTheirPlacesAlone() {
        String[] keys = {"feels", "strong", "eases", "or", "and", "not"};
        for (String key : keys) {
            boolean joins = key.equals("or") || key.equals("and");
            if (!key.equals("not")) {
                faultIn(key + " 1", 0);
            }
            if (joins) {
                good("1 " + key + " 1");
            } else {
                faultIn("1 " + key + " 1", 2);
            }
            faultIn("1 + " + key, 4);
            fault((key.equals("feels") ? "age" : key) + " 1; strong 1; eases 1;", 0);
            fault("feels 1; " + (key.equals("strong") ? "age" : key) + " 1; eases 1;", 9);
            fault("feels 1; strong 1; " + (key.equals("eases") ? "age" : key) + " 1;", 19);
        }
    }

    /** FAULT: the place of the first byte of the first TOKEN that can't stand there. */
    private static void faultAtTheFirstByteOfAToken() {
        fault("strong", 0);
        fault("  \n strong", 4);
        faultIn("1   others", 4);
        faultIn("1\n\n\n9999", 4);
        fault("feels 1; strong 1; eases 1; feels", 28);
        fault("feels 1; strong 1; eases 1;1", 27);
        fault("feels 1; strong 1; eases 1;;", 27);
        fault("feels 1; strong 1; eases 1;)", 27);
        fault("feels 1; strong 1; eases 1;  or", 29);
    }

    /** (the text's size, if it ends too early): all bytes that were fed, blanks, too. */
    private static void faultAtTheTextsSize() {
        fault("", 0);
        fault(" ", 1);
        fault("\n\n", 2);
        // Behind each token that may stand: the size, and with blanks behind it the size with those.
        String text = "feels -(1)*2+3-4; strong 1<2; eases not 1 and 2 or 3=4;";
        int[] ends = {5, 7, 8, 9, 10, 11, 12, 13, 14, 15, 16, 17, 24, 26, 27, 28, 29, 35, 39, 41, 45, 47, 50, 52, 53, 54};
        for (int end : ends) {
            fault(text.substring(0, end), end);
            fault(text.substring(0, end) + " \n ", end + 3);
        }
        Due.is("its last sign", text(text), 1);
    }

    /** also of a byte that begins none: where a TOKEN may stand, and where none may. */
    private static void faultAtAByteThatBeginsNone() {
        faultIn("1 + !", 4);
        faultIn("1 !", 2);
        faultIn("1!", 1);
        faultIn("(!)", 1);
        faultIn("not !", 4);
        faultIn("-!", 1);
        fault("!", 0);
        fault("feels 1; ! strong", 9);
        fault("feels 1; strong 1; eases 1; !", 28);
        for (int c = 128; c < 256; c++) {
            fault("feels " + (char) c, 6);
        }
    }

    /** a WORD that is neither KEY nor NAME. */
    private static void faultAtAnUnknownWord() {
        for (String word : new String[] {"a", "z", "ages", "numb", "numbers", "floors", "years", "eas", "feel", "other",
            "strongs", "easess", "nor", "an", "no", "ors", "ands", "nots", "rock", "load", "e"}) {
            faultIn(word, 0);
            faultIn("1 + " + word, 4);
            faultIn("1 " + word, 2);
            fault(word, 0);
        }
    }

    /** the first: one that stands behind another one is not told. */
    private static void faultAtTheEarliest() {
        faultIn("1 2 !", 2);
        faultIn("! 1 2", 0);
        faultIn("1 1 12345", 2);
        faultIn("12345 1 !", 0);
        faultIn("x ! 12345", 0);
        faultIn("1 + + !", 4);
        faultIn("((((((1 !", 5);
        faultIn("! ((((((1", 0);
        fault("feels 1 2", 8);
        fault("x", 0);
    }

    /** a ( while 5 of these are open. */
    private static void fiveBracketsAreOpen() {
        good("(((((1)))))");
        faultIn("((((((1))))))", 5);
        faultIn("((((( (", 6);
        faultIn("(((((1 + (2))))))", 9);
        faultIn("(((((1 < (2))))))", 9);
        faultIn("(((((1 or (2))))))", 10);
        good("((((1 + (2)))))");
    }

    /** a not while 5 of these are open. */
    private static void fiveNotsAreOpen() {
        good("not not not not not 1");
        faultIn("not not not not not not 1", 20);
        good("not not not not not 1 or not not not not not 1");
        good("not not not not not 1 and not not not not not 1");
    }

    /** a - ahead of a ONE while 5 of these are open; a - between TERMS opens none. */
    private static void fiveMinusesAreOpen() {
        good("-----1");
        faultIn("------1", 5);
        good("1 ------1");
        faultIn("1 -------1", 8);
        good("1 - -----1");
        good("1 - 1 - 1 - 1 - 1 - 1 - 1");
        good("(((((1 - 1)))))");
        faultIn("(((((1 - -1)))))", 9);
        good("not not not not not 1 - 1");
    }

    /** while 5 of these are open: of all three together. */
    private static void allThreeAreCountedTogether() {
        good("not not (-(1))");
        good("not (-(-1))");
        faultIn("not (-(-(1)))", 8);
        faultIn("not (-(--1))", 8);
        faultIn("not (not (not not 1))", 14);
        good("not (not (not 1))");
        faultIn("not not not not ((1))", 17);
        good("not not not not (1)");
        faultIn("not not not not (-1)", 17);
        faultIn("(((((not 1)))))", 5);
        faultIn("-----(1)", 5);
        good("----(1)");
    }

    /** (a ( till its ) , not and - till what they belong to ends). */
    private static void openTillTheyEnd() {
        good("(((((1))))) + (((((2)))))");
        good("-----1 * -----1");
        good("-----1 + -----1");
        good("-----1 < -----1");
        good("----(1) + -----1");
        // A not is open over both sides of a comparison, and no further.
        faultIn("not not not not not 1 < -1", 24);
        faultIn("not not not not not 1 = (1)", 24);
        faultIn("not not not not not 1 + -1", 24);
        faultIn("not not not not not 1 * (1)", 24);
        good("not not not not not 1 < 1 or -1 < 1");
        good("not not not not not 1 < 1 and (1)");
        good("not not not not 1 < -1 - -1 - (1)");
        // A minus is open over its ONE alone.
        good("not not not not -1 * -1");
        good("(((( -1 * -1 + (1) ))))");
        good("-(-(-1 + (1)))");
        faultIn("-(-(-(1)))", 5);
    }

    /** There are 6 TEXTS at most, TEXT 0 with them. */
    private static void textsAreSix() {
        NobodyCanLiftIt x = new NobodyCanLiftIt();
        Due.is("one at first", x.count(3), 1);
        for (int i = 1; i < 6; i++) {
            Due.is("its number", Due.read(x, "feels " + i + REST), i);
        }
        Due.is("six", x.count(3), 6);
        Due.feed(x, "feels 7" + REST);
        Due.is("no seventh", x.text(), FULL);
        Due.is("six still", x.count(3), 6);
        Due.is("the tape stays", x.count(4), ("feels 7" + REST).length());
        x.person(5, 0, 0);
        for (int i = 5; i > 0; i--) {
            x.force(i);
            Due.is("each as it was read", x.feels(0, 0), i);
        }
        Due.is("none is numbered 6", x.force(6), BAD);
    }

    /** TEXT 0, at first THE RULE, is: feels 10 ; strong age ; eases 1 ;. */
    private static void textZero() {
        NobodyCanLiftIt x = new NobodyCanLiftIt();
        Due.is("the rule at first", x.count(5), 0);
        x.person(0, 0, 42);
        Due.is("feels", x.feels(0, 0), 10);
        Due.is("strong", x.told(0, 8), 42);
        Due.is("eases", x.told(0, 9), 1);
        x.set(4, 0, 999);
        Due.is("strong 99 at most", x.told(0, 8), 99);
        x.set(4, 0, 0);
        Due.is("strong 0", x.told(0, 8), 0);
    }

    /** A FAULT empties THE TAPE and takes no number. */
    private static void aFaultTakesNoNumber() {
        NobodyCanLiftIt x = new NobodyCanLiftIt();
        Due.is("a fault", Due.read(x, "feels 1 2"), -108);
        Due.is("the tape is empty", x.count(4), 0);
        Due.is("texts", x.count(3), 1);
        Due.is("the rule", x.count(5), 0);
        Due.is("nothing of it is left", x.text(), -100);
        Due.is("the next one is 1", Due.read(x, "feels 1" + REST), 1);
        Due.is("the tape is empty again", x.count(4), 0);
    }

    /** Promise 9: A TEXT is THE RULE: which was: TEXT 0, the last one, the same again. BAD. */
    private static void forcedAtTheirBounds() {
        NobodyCanLiftIt x = new NobodyCanLiftIt();
        Due.is("0 again", x.force(0), 0);
        Due.is("no 1 yet", x.force(1), BAD);
        for (int i = 1; i < 6; i++) {
            Due.read(x, "feels " + i + REST);
        }
        int[] forced = {5, 5, 0, 1, 0, 5, 4, 0, 0};
        int was = 0;
        for (int text : forced) {
            Due.is("force(" + text + ")", x.force(text), was);
            Due.is("the rule", x.count(5), text);
            was = text;
        }
        for (int text : Due.outside(0, 5)) {
            Due.is("no text " + text, x.force(text), BAD);
        }
        Due.is("the rule still", x.count(5), 0);
    }

    /** Of one of PEOPLE: age: AGE; number: NUMBER; floor; year: YEAR; ease: EASE, each at its bounds. */
    private static void namesAtTheirBounds() {
        String[] names = {"age", "number", "ease", "floor", "year"};
        int[] setBy = {4, 3, 5, 1, 2};
        int[] most = {999, 9, 99, 10, 999};
        for (int i = 0; i < names.length; i++) {
            NobodyCanLiftIt x = Due.by(names[i] + " = " + most[i], names[i], "(" + names[i] + " = 0) * 9");
            x.person(5, 0, 0);
            x.set(0, 0, 0);
            Due.is(names[i] + " is not the most", x.feels(0, 0), 0);
            Due.is(names[i] + " is 0", x.told(0, 9), 9);
            Due.is(names[i] + " of 0", x.told(0, 8), 0);
            x.set(setBy[i], 0, most[i]);
            x.set(2, 0, i == 4 ? 999 : 0);
            Due.is(names[i] + " is the most", x.feels(0, 0), 1);
            Due.is(names[i] + " is not 0", x.told(0, 9), 0);
            Due.is(names[i] + " told", x.told(0, 8), Math.min(99, most[i]));
        }
    }

    /** others: how many others are HERE: 0 .. 4, oneself never, be one HERE or not. */
    private static void othersAtTheirBounds() {
        NobodyCanLiftIt x = Due.by("others", "others", "others");
        for (int i = 0; i < 5; i++) {
            x.person(5, 0, 0);
            Due.is("of the first", x.feels(0, 0), i);
            Due.is("of the last", x.feels(i, 0), i);
        }
        x.set(6, 4, 0);
        Due.is("who is gone has four others", x.feels(4, 0), 4);
        Due.is("who is here has three", x.feels(0, 0), 3);
        for (int i = 0; i < 4; i++) {
            x.set(6, i, 0);
        }
        Due.is("nobody is here", x.feels(2, 0), 0);
    }

    /** feels, strong, eases (0 .. 99, else the bound). */
    private static void toldWithinBounds() {
        int[][] toldFor = {{0, 0}, {1, 1}, {98, 98}, {99, 99}, {100, 99}, {9999, 99}};
        for (int[] t : toldFor) {
            NobodyCanLiftIt x = Due.by("" + t[0], "" + t[0], "" + t[0]);
            x.person(0, 0, 0);
            Due.is("feels " + t[0], x.feels(0, 0), t[1]);
            Due.is("strong " + t[0], x.told(0, 8), t[1]);
            Due.is("eases " + t[0], x.told(0, 9), t[1]);
            NobodyCanLiftIt y = Due.by("-" + t[0], "-" + t[0], "-" + t[0]);
            y.person(0, 0, 0);
            Due.is("feels -" + t[0], y.feels(0, 0), 0);
            Due.is("strong -" + t[0], y.told(0, 8), 0);
            Due.is("eases -" + t[0], y.told(0, 9), 0);
        }
        tells("2048*1024*1024 - 1", 99);
        tells("2048*1024*1024", 0);
    }

    /** An E is an int (32 bits, wrapping). */
    private static void anIntWraps() {
        String least = "(2048*1024*1024)";
        tells(least + " < 0", 1);
        tells(least + " - 1 = 2047*1024*1024 + 1023*1024 + 1023", 1);
        tells("-" + least + " = " + least, 1);
        tells(least + " + " + least, 0);
        tells("2*" + least + " = 0", 1);
        tells("0 < " + least + " - 1", 1);
        tells(least + " - 1 + 1 < 0", 1);
        tells("0 - " + least + " < 0", 1);
        tells(least + " * -1 < 0", 1);
        tells("4096*1024*1024 + 5", 5);
        tells("-1 < " + least, 0);
        // 65536 squared is 0 in 32 bits, 46341 squared is below 0.
        tells("256*256*256*256", 0);
        tells("(4634*10 + 1) * (4634*10 + 1) < 0", 1);
        tells("4634*10 * (4634*10) < 0", 0);
    }

    /** of or, and, not, <, = 1 or 0 (what is not 0 is true). */
    private static void trueIsWhatIsNotZero() {
        tells("7 or 0", 1);
        tells("-7 or 0", 1);
        tells("0 or 0", 0);
        tells("7 and -7", 1);
        tells("7 and 0", 0);
        tells("not 0", 1);
        tells("not 7", 0);
        tells("not -7", 0);
        tells("not not 7", 1);
        tells("2048*1024*1024 and 1", 1);
        tells("2048*1024*1024*2 or 0", 0);
        tells("(1 < 2) + (2 = 2) + (not 0) + (5 or 0) + (5 and 5)", 5);
        tells("7", 7);
        tells("(7)", 7);
    }
}
