/** Edges of the promises 1 to 6: a new object, THE TEXT, and the land that it tells. */
final class TextEdges {
    private static final int BAD = Edges.BAD;
    private static final int STATE = Edges.STATE;
    private static final int FULL = Edges.FULL;
    private static final int NONE = Edges.NONE;
    private static final int LEAST = Edges.LEAST;
    private static final int MOST = Edges.MOST;
    // The 14 letters ahead of the item that a test is about.
    private static final String TWO_PEAKS = "p1 1 1;p2 2 2;";

    private TextEdges() {
    }

    private static void due(String call, long got, long want) {
        Edges.due(call, got, want);
    }

    private static void dueLand(String text, int want) {
        due("land() of '" + text + "'", Edges.typed(text).land(), want);
    }

    /** The FAULT is at a place of the text. */
    private static void dueFault(String text, int place) {
        dueLand(text, -10 - place);
    }

    /** Of a text of one ITEM all that is there when it ends too early, blanks behind or not. */
    private static void dueTooEarly(String ahead, String... tokens) {
        String text = ahead;
        for (String token : tokens) {
            text = text + token;
            dueFault(text, text.length());
            dueFault(text + " ", text.length() + 1);
            dueFault(text + "   ", text.length() + 3);
            text = text + " ";
        }
        dueLand(text + ";", ahead.isEmpty() ? 1 : 3);
    }

    // ---- promise 1

    static void promise01_noPeaks() {
        HorizonPeaks x = new HorizonPeaks();
        due("count(0)", x.count(0), 0);
        due("peak(0, 0)", x.peak(0, 0), BAD);
        due("seen(0, 0, 0)", x.seen(0, 0, 0), BAD);
        due("panorama(0, 0, -1)", x.panorama(0, 0, -1), 0);
        due("unseen()", x.unseen(), 0);
    }

    static void promise01_noRidges() {
        HorizonPeaks x = new HorizonPeaks();
        due("count(1)", x.count(1), 0);
        due("ridge(0, 0)", x.ridge(0, 0), BAD);
    }

    static void promise01_slackIs1AtFirst() {
        due("count(2)", new HorizonPeaks().count(2), 1);
    }

    static void promise01_nothingNotedToldTypedOrDone() {
        HorizonPeaks x = new HorizonPeaks();
        for (int what = 3; what <= 6; what++) {
            due("count(" + what + ")", x.count(what), 0);
        }
        due("notch(0, 0)", x.notch(0, 0), BAD);
        due("undo()", x.undo(), STATE);
        due("back(0)", x.back(0), STATE);
        due("back(1)", x.back(1), STATE);
        due("clear()", x.clear(), 0);
        due("forget()", x.forget(), 0);
    }

    static void promise01_everyPointIsAPlace() {
        HorizonPeaks x = new HorizonPeaks();
        for (int point = 0; point < 64; point++) {
            due("score at " + point, x.score(point / 8, point % 8, point), 0);
        }
        due("wholes()", x.wholes(), 4096);
        due("doubt()", x.doubt(), 64);
    }

    static void promise01_objectsDoNotShare() {
        HorizonPeaks first = Edges.full();
        HorizonPeaks x = new HorizonPeaks();
        due("count(0) of another", x.count(0), 0);
        due("count(3) of another", x.count(3), 0);
        x.type('s');
        due("count(5) of the first", first.count(5), 140);
    }

    // ---- promise 2

    static void promise02_letterIs0To255() {
        HorizonPeaks x = new HorizonPeaks();
        due("type(0)", x.type(0), 1);
        due("type(255)", x.type(255), 2);
        int[] wrong = {-1, 256, LEAST, MOST};
        for (int letter : wrong) {
            Edges.refused("type(" + letter + ")", Edges::busy, o -> o.type(letter), BAD);
        }
    }

    static void promise02_letterIsNotCutTo8Bits() {
        HorizonPeaks x = new HorizonPeaks();
        due("type('s' + 256)", x.type('s' + 256), BAD);
        due("type('s' - 256)", x.type('s' - 256), BAD);
        due("type('s' + 65536)", x.type('s' + 65536), BAD);
    }

    static void promise02_140Letters() {
        HorizonPeaks x = new HorizonPeaks();
        for (int i = 1; i <= 140; i++) {
            due("type, letter " + i, x.type(' '), i);
        }
        due("type, letter 141", x.type(' '), FULL);
        due("type, letter 141 again", x.type(' '), FULL);
    }

    static void promise02_fullIsRefused() {
        Edges.refused("type('9') to 140", Edges::full, o -> o.type('9'), FULL);
        Edges.refused("type(0) to 140", Edges::full, o -> o.type(0), FULL);
    }

    static void promise02_badAheadOfFull() {
        Edges.refused("type(256) to 140", Edges::full, o -> o.type(256), BAD);
        Edges.refused("type(-1) to 140", Edges::full, o -> o.type(-1), BAD);
    }

    static void promise02_all140AreRead() {
        due("the text's length", Edges.FULL_TEXT.length(), 140);
        HorizonPeaks x = Edges.typed(Edges.FULL_TEXT);
        due("land()", x.land(), 19);
        due("count(0)", x.count(0), 10);
        due("count(1)", x.count(1), 8);
        due("count(2)", x.count(2), 3);
    }

    static void promise02_onlyTheTextChanges() {
        HorizonPeaks x = Edges.busy();
        due("type", x.type('9'), 9);
        int[] want = {3, 2, 2, 2, 2, 9, 5};
        for (int what = 0; what < want.length; what++) {
            due("count(" + what + ")", x.count(what), want[what]);
        }
    }

    // ---- promise 3

    static void promise03_emptyTextHadNone() {
        due("clear()", new HorizonPeaks().clear(), 0);
        HorizonPeaks x = Edges.busy();
        x.clear();
        Edges.unchanged("clear() of nothing", () -> {
            HorizonPeaks o = Edges.busy();
            o.clear();
            return o;
        }, HorizonPeaks::clear);
        due("clear() again", x.clear(), 0);
    }

    static void promise03_oneLetter() {
        HorizonPeaks x = new HorizonPeaks();
        x.type(0);
        due("clear()", x.clear(), 1);
        due("count(5)", x.count(5), 0);
    }

    static void promise03_fullTextHad140() {
        HorizonPeaks x = Edges.full();
        due("clear()", x.clear(), 140);
        due("count(5)", x.count(5), 0);
        due("type behind", x.type('s'), 1);
        due("land() of 's'", x.land(), -11);
    }

    static void promise03_onlyTheTextChanges() {
        HorizonPeaks x = Edges.busy();
        due("clear()", x.clear(), 8);
        int[] want = {3, 2, 2, 2, 2, 0, 5};
        for (int what = 0; what < want.length; what++) {
            due("count(" + what + ")", x.count(what), want[what]);
        }
        due("back(1)", x.back(1), 3);
    }

    static void promise03_whatWasThereIsNotRead() {
        HorizonPeaks x = Edges.typed("p1 1 99;;");
        x.clear();
        Answers.type(x, "p1 1 9");
        due("land()", x.land(), -16);
    }

    // ---- promise 4: ITEMS, TOKENS and blanks

    static void promise04_noItems() {
        dueLand("", 0);
        dueLand(" ", 0);
        dueLand(" ".repeat(140), 0);
    }

    static void promise04_howManyItems() {
        dueLand("s0;", 1);
        dueLand("p0 0 1;", 1);
        dueLand(TWO_PEAKS + "r0 1;", 3);
        dueLand("s1;".repeat(46), 46);
        dueLand("s1;".repeat(46) + "  ", 46);
    }

    static void promise04_noItemIsEmpty() {
        dueFault(";", 0);
        dueFault("s1;;", 3);
        dueFault("s1; ;", 4);
    }

    static void promise04_blanksAsMayBe() {
        dueLand("   p   1   1   1   ;   s   2   ;   ", 2);
        dueLand(TWO_PEAKS + "r 0  1 ;", 3);
    }

    static void promise04_noBlanksNeeded() {
        dueLand("p1 1 1;s2;p2 2 2;r0 1;s0;", 5);
        dueFault("s1s2;", 2);
        dueFault("pr", 1);
    }

    static void promise04_figuresInARowAreOneNumber() {
        dueFault("p11 1;", 1);
        dueFault("p1 11;", 3);
        dueFault("p111;", 1);
        dueFault("p1 1 4 0;", 7);
        dueLand("p1 1 40;", 1);
    }

    static void promise04_blankIs32Alone() {
        for (int letter = 0; letter <= 255; letter++) {
            String text = (char) letter + "s1;";
            int want = letter == ' ' ? 1 : "prs".indexOf(letter) >= 0 ? -11 : -10;
            due("land() of letter " + letter + " and 's1;'", Edges.typed(text).land(), want);
        }
    }

    static void promise04_noOtherLetterInsideAnItem() {
        for (int letter = 0; letter <= 255; letter++) {
            boolean figure = letter >= '0' && letter <= '9';
            // Behind the 1 a figure makes a number above 7, and a blank is as may be.
            int want = letter == ' ' ? 1 : figure ? -11 : -12;
            due("land() of 'p1', letter " + letter + ", ' 1 1;'",
                    Edges.typed("p1" + (char) letter + " 1 1;").land(), want);
        }
    }

    static void promise04_noOtherLetterBehindTheLastItem() {
        for (int letter = 0; letter <= 255; letter++) {
            int want = letter == ' ' ? 1 : "prs".indexOf(letter) >= 0 ? -14 : -13;
            due("land() of 's1;' and letter " + letter, Edges.typed("s1;" + (char) letter).land(), want);
        }
    }

    // ---- promise 4: NUMBERS

    static void promise04_xIs0To7() {
        dueLand("p0 1 1;", 1);
        dueLand("p7 1 1;", 1);
        dueFault("p8 1 1;", 1);
        dueFault("p 8 1 1;", 2);
    }

    static void promise04_yIs0To7() {
        dueLand("p1 0 1;", 1);
        dueLand("p1 7 1;", 1);
        dueFault("p1 8 1;", 3);
        dueFault("p1  8 1;", 4);
    }

    static void promise04_highIs1To40() {
        dueFault("p1 1 0;", 5);
        dueLand("p1 1 1;", 1);
        dueLand("p1 1 40;", 1);
        dueFault("p1 1 41;", 5);
        dueFault("p1 1  41;", 6);
    }

    static void promise04_slackIs0To3() {
        dueLand("s0;", 1);
        dueLand("s3;", 1);
        dueFault("s4;", 1);
        dueFault("s  4;", 3);
    }

    static void promise04_numberUpTo99() {
        dueFault("s99;", 1);
        dueFault("s100;", 1);
        dueFault("p1 1 99;", 5);
        dueFault("p1 1 100;", 5);
        dueFault("99", 0);
        dueFault("100", 0);
    }

    static void promise04_longRowsOfFiguresDoNotWrapRound() {
        dueFault("s4294967297;", 1);
        dueFault("s18446744073709551617;", 1);
        dueFault("s" + "9".repeat(139), 1);
        dueFault("s1" + "0".repeat(137) + ";", 1);
    }

    static void promise04_no0AheadOfOtherFigures() {
        dueLand("s0;", 1);
        dueFault("s00;", 1);
        dueFault("s01;", 1);
        dueFault("s001;", 1);
        dueFault("p01 1 1;", 1);
        dueFault("p1 01 1;", 3);
        dueFault("p1 1 01;", 5);
        dueFault(TWO_PEAKS + "r00 1;", 15);
        dueFault(TWO_PEAKS + "r0 01;", 17);
    }

    static void promise04_0BehindIsNot0Ahead() {
        dueLand("p0 0 10;", 1);
        dueLand("p0 0 20;", 1);
    }

    // ---- promise 4: PEAKS and RIDGES

    static void promise04_tenPeaks() {
        dueLand(Edges.FAN, 10);
        dueLand(Edges.FAN + "s1;", 11);
        dueFault(Edges.FAN + "p0 1 1;", 70);
        dueFault(Edges.FAN + "  p", 72);
        dueFault(Edges.FAN + "s1; pp", 74);
    }

    static void promise04_eightRidges() {
        String ridges = "r0 1;".repeat(8);
        dueLand(TWO_PEAKS + ridges, 10);
        dueLand(TWO_PEAKS + ridges + "p3 3 3;", 11);
        dueFault(TWO_PEAKS + ridges + "r0 1;", 54);
        dueFault(TWO_PEAKS + ridges + " r", 55);
        dueFault(TWO_PEAKS + ridges + "s1;r0 0;", 57);
    }

    static void promise04_noTwoPeaksAtOnePoint() {
        dueFault("p1 2 1;p1 2 2;", 10);
        dueFault("p1 2 1;p1  2", 11);
        dueFault("p0 0 1;p1 1 1;s1;p0 0 1;", 20);
        dueFault("p7 7 1;p7 7 1;", 10);
        dueLand("p1 2 1;p1 3 1;", 2);
        dueLand("p1 2 1;p2 2 1;", 2);
        dueLand("p1 2 1;p2 1 1;", 2);
    }

    static void promise04_pointsAreFreeAnew() {
        HorizonPeaks x = Edges.told("p1 2 1;");
        Answers.type(x, "p1 2 3;");
        due("land()", x.land(), 1);
        due("peak(0, 2)", x.peak(0, 2), 3);
        Answers.type(x, "p5 5 3;p5 5 3;");
        due("land() with a fault", x.land(), -20);
        x.clear();
        Answers.type(x, "p5 5 4;");
        due("land() behind a fault", x.land(), 1);
    }

    static void promise04_ridgeOfPeaksToldAhead() {
        dueFault("r0 1;", 1);
        dueFault("r", 1);
        dueFault("p1 1 1;r0 1;", 10);
        dueFault("p1 1 1;r1 0;", 8);
        dueLand(TWO_PEAKS + "r0 1;", 3);
        dueLand(TWO_PEAKS + "r1 0;", 3);
        dueFault(TWO_PEAKS + "r2 0;", 15);
        dueFault(TWO_PEAKS + "r0 2;", 17);
        dueFault("p1 1 1;r0 1;p2 2 2;", 10);
        dueLand(Edges.FAN + "r9 0;r0 9;", 12);
        dueFault(Edges.FAN + "r10 0;", 71);
        dueFault(Edges.FAN + "r0 10;", 73);
    }

    static void promise04_ridgeOfUnlikePeaks() {
        dueFault(TWO_PEAKS + "r0 0;", 17);
        dueFault(TWO_PEAKS + "r1 1;", 17);
        dueFault(TWO_PEAKS + "r1   1", 19);
        dueFault("p1 1 1;r0 0;", 10);
    }

    static void promise04_ridgeToldAgain() {
        HorizonPeaks x = Edges.told(TWO_PEAKS + "r0 1;r0 1;r1 0;");
        due("count(1)", x.count(1), 3);
        due("ridge(2, 0)", x.ridge(2, 0), 1);
    }

    static void promise04_slackToldAgainIsAsToldLast() {
        due("s3; s0;", Edges.told("s3;s0;").count(2), 0);
        due("s0; s3;", Edges.told("s0;s3;").count(2), 3);
        due("s2; p; s2;", Edges.told("s2;p1 1 1;s2;").count(2), 2);
    }

    static void promise04_slackNotToldIs1() {
        HorizonPeaks x = Edges.told("s3;");
        Answers.type(x, "p1 1 1;");
        x.land();
        due("count(2)", x.count(2), 1);
        Answers.type(x, "s0;");
        x.land();
        due("count(2) told", x.count(2), 0);
        x.land();
        due("count(2) of no items", x.count(2), 1);
    }

    // ---- promise 4: FAULT

    static void promise04_itemsBeginWithALetterOfTheirs() {
        dueFault("0", 0);
        dueFault("  1 p", 2);
        dueFault("; p", 0);
        dueFault("P1 1 1;", 0);
        dueFault("R0 1;", 0);
        dueFault("S1;", 0);
        dueFault("q1 1 1;", 0);
    }

    static void promise04_tokensThatCantStandInAPeak() {
        String[] wrong = {"p", "r", "s", ";"};
        for (String token : wrong) {
            dueFault("p" + token + "1 1 1;", 1);
            dueFault("p1" + token + "1 1;", 2);
            dueFault("p1 1" + token + "1;", 4);
        }
        dueFault("p1 1 1p;", 6);
        dueFault("p1 1 1r;", 6);
        dueFault("p1 1 1s;", 6);
        dueFault("p1 1 1 1;", 7);
    }

    static void promise04_tokensThatCantStandInARidge() {
        String[] wrong = {"p", "r", "s", ";"};
        for (String token : wrong) {
            dueFault(TWO_PEAKS + "r" + token + "0 1;", 15);
            dueFault(TWO_PEAKS + "r0" + token + "1;", 16);
        }
        dueFault(TWO_PEAKS + "r0 1p;", 18);
        dueFault(TWO_PEAKS + "r0 1r;", 18);
        dueFault(TWO_PEAKS + "r0 1s;", 18);
        dueFault(TWO_PEAKS + "r0 1 1;", 19);
    }

    static void promise04_tokensThatCantStandInSlack() {
        String[] wrong = {"p", "r", "s", ";"};
        for (String token : wrong) {
            dueFault("s" + token + "1;", 1);
        }
        dueFault("s1p;", 2);
        dueFault("s1r;", 2);
        dueFault("s1s;", 2);
        dueFault("s1 1;", 3);
    }

    static void promise04_textEndsTooEarly() {
        dueTooEarly("", "p", "1", "1", "1");
        dueTooEarly(TWO_PEAKS, "r", "0", "1");
        dueTooEarly("", "s", "1");
    }

    static void promise04_textEndsTooEarlyAt140() {
        dueFault("s1;".repeat(46) + "s1", 140);
        dueFault("s" + " ".repeat(139), 140);
        dueFault(" ".repeat(139) + "s", 140);
    }

    static void promise04_theLastLetterIsTheFault() {
        dueFault("s1;".repeat(46) + " ;", 139);
        dueFault(" ".repeat(139) + "1", 139);
    }

    static void promise04_aWrongTokenAheadOfTheTextsEnd() {
        dueFault("p8", 1);
        dueFault("s00", 1);
        dueFault("p1 1 100", 5);
        dueFault("p1 1 41", 5);
        dueFault("p1 1 x", 5);
    }

    static void promise04_theFirstOfSeveralFaults() {
        dueFault("p8 8 0;", 1);
        dueFault("p1 8 0;", 3);
        dueFault("s4 x", 1);
        dueFault("s1 x 00", 3);
        dueFault("s1;s4;s5;", 4);
        dueFault("p1 ; 100", 3);
    }

    static void promise04_theFirstLetterOfTheToken() {
        dueFault("s   99 ;", 4);
        dueFault("s   007;", 4);
        dueFault("p1 1 999999;", 5);
    }

    static void promise04_faultIsRefused() {
        for (String text : new String[] {"", "x", ";", "0", "0;s0;p", " ", "0;p2 3 4;r0 0;", "1;p0 0 1;p0 0 1;"}) {
            Edges.Maker maker = () -> {
                HorizonPeaks x = Edges.busy();
                Answers.type(x, text);
                return x;
            };
            due("land() of '" + text + "' is refused", maker.make().land() < 0 ? 1 : 0, 1);
            Edges.unchanged("land() of '" + text + "'", maker, HorizonPeaks::land);
        }
    }

    static void promise04_faultIsRefusedOfAFullText() {
        Edges.Maker maker = () -> {
            HorizonPeaks x = Edges.full();
            x.clear();
            Answers.type(x, Edges.FAN + "s0;".repeat(23) + "s");
            return x;
        };
        Edges.refused("land()", maker, HorizonPeaks::land, -150);
    }

    static void promise04_theTextStaysAndMayGoOn() {
        HorizonPeaks x = Edges.typed("p1 1 4");
        due("land() too early", x.land(), -16);
        due("count(5)", x.count(5), 6);
        due("type('0')", x.type('0'), 7);
        due("land() too early", x.land(), -17);
        due("type(';')", x.type(';'), 8);
        due("land()", x.land(), 1);
        due("peak(0, 2)", x.peak(0, 2), 40);
    }

    // ---- promise 4: all anew

    static void promise04_theTextIsEmptyThen() {
        HorizonPeaks x = Edges.typed(Edges.FULL_TEXT);
        due("land()", x.land(), 19);
        due("count(5)", x.count(5), 0);
        due("clear()", x.clear(), 0);
        due("type behind", x.type('s'), 1);
    }

    static void promise04_readAnewAllElseIsGone() {
        HorizonPeaks x = Edges.full();
        x.clear();
        Answers.type(x, "p0 1 3;");
        due("land()", x.land(), 1);
        int[] want = {1, 0, 1, 0, 0, 0, 0};
        for (int what = 0; what < want.length; what++) {
            due("count(" + what + ")", x.count(what), want[what]);
        }
        due("notch(0, 0)", x.notch(0, 0), BAD);
        due("undo()", x.undo(), STATE);
        due("back(0)", x.back(0), STATE);
        due("back(1)", x.back(1), STATE);
        due("forget()", x.forget(), 0);
        due("unseen()", x.unseen(), 1);
        due("peak(1, 0)", x.peak(1, 0), BAD);
        due("ridge(0, 0)", x.ridge(0, 0), BAD);
    }

    static void promise04_noItemsTellAllAnewToo() {
        HorizonPeaks x = Edges.busy();
        x.clear();
        due("land()", x.land(), 0);
        int[] want = {0, 0, 1, 0, 0, 0, 0};
        for (int what = 0; what < want.length; what++) {
            due("count(" + what + ")", x.count(what), want[what]);
        }
        due("undo()", x.undo(), STATE);
        due("back(0)", x.back(0), STATE);
        due("wholes()", x.wholes(), 4096);
        due("panorama(0, 0, 0)", x.panorama(0, 0, 0), NONE);
        due("sketches(7, 0, 0) where a peak was", x.sketches(7, 0, 0), 0);
    }

    static void promise04_whatIsSeenIsAnew() {
        HorizonPeaks x = Edges.told("p2 0 9;p4 0 9;");
        due("hidden", x.seen(0, 0, 1), 0);
        due("wholes() of no notches", x.wholes(), 62 * 64);
        Answers.type(x, "p2 1 9;p4 0 9;p6 6 6;");
        x.land();
        due("seen", x.seen(0, 0, 1), 1);
        due("wholes() of no notches", x.wholes(), 61 * 64);
        due("a place where a peak was", x.seen(2, 0, 1), 1);
        Answers.type(x, "p2 0 9;p4 0 9;");
        x.land();
        due("hidden again", x.seen(0, 0, 1), 0);
        due("panorama(0, 0, -1)", x.panorama(0, 0, -1), 1);
        due("wholes() of no notches", x.wholes(), 62 * 64);
    }

    // ---- promise 5

    static void promise05_peakOfThoseThereAre() {
        Edges.Maker maker = () -> Edges.told(TWO_PEAKS);
        due("peak(0, 0)", maker.make().peak(0, 0), 1);
        due("peak(1, 0)", maker.make().peak(1, 0), 2);
        int[] wrong = {-1, 2, 10, LEAST, MOST};
        for (int p : wrong) {
            Edges.refused("peak(" + p + ", 0)", maker, x -> x.peak(p, 0), BAD);
        }
    }

    static void promise05_what0To2() {
        HorizonPeaks x = Edges.told("p3 5 40;");
        due("peak(0, 0)", x.peak(0, 0), 3);
        due("peak(0, 1)", x.peak(0, 1), 5);
        due("peak(0, 2)", x.peak(0, 2), 40);
        int[] wrong = {-1, 3, LEAST, MOST};
        for (int what : wrong) {
            Edges.refused("peak(0, " + what + ")", Edges::busy, o -> o.peak(0, what), BAD);
        }
    }

    static void promise05_theTenth() {
        HorizonPeaks x = Edges.told(Edges.FAN);
        due("peak(9, 0)", x.peak(9, 0), 7);
        due("peak(9, 1)", x.peak(9, 1), 4);
        due("peak(9, 2)", x.peak(9, 2), 7);
        due("peak(10, 0)", x.peak(10, 0), BAD);
    }

    static void promise05_leastAndMost() {
        HorizonPeaks x = Edges.told("p0 7 1;p7 0 40;");
        due("peak(0, 0)", x.peak(0, 0), 0);
        due("peak(0, 1)", x.peak(0, 1), 7);
        due("peak(0, 2)", x.peak(0, 2), 1);
        due("peak(1, 0)", x.peak(1, 0), 7);
        due("peak(1, 1)", x.peak(1, 1), 0);
        due("peak(1, 2)", x.peak(1, 2), 40);
    }

    // ---- promise 6

    static void promise06_ridgeOfThoseThereAre() {
        int[] wrong = {-1, 2, 8, LEAST, MOST};
        for (int r : wrong) {
            Edges.refused("ridge(" + r + ", 0)", Edges::busy, x -> x.ridge(r, 0), BAD);
        }
        due("ridge(0, 0)", Edges.busy().ridge(0, 0), 0);
        due("ridge(1, 0)", Edges.busy().ridge(1, 0), 2);
        due("ridge(0, 0) of none", Edges.told(TWO_PEAKS).ridge(0, 0), BAD);
    }

    static void promise06_what0And1() {
        due("ridge(0, 1)", Edges.busy().ridge(0, 1), 1);
        due("ridge(1, 0)", Edges.busy().ridge(1, 0), 2);
        due("ridge(1, 1)", Edges.busy().ridge(1, 1), 0);
        int[] wrong = {-1, 2, LEAST, MOST};
        for (int what : wrong) {
            Edges.refused("ridge(0, " + what + ")", Edges::busy, x -> x.ridge(0, what), BAD);
        }
    }

    static void promise06_theEighth() {
        HorizonPeaks x = Edges.told(Edges.FAN + Edges.EIGHT_RIDGES);
        due("ridge(5, 0)", x.ridge(5, 0), 9);
        due("ridge(5, 1)", x.ridge(5, 1), 0);
        due("ridge(7, 0)", x.ridge(7, 0), 0);
        due("ridge(7, 1)", x.ridge(7, 1), 1);
        due("ridge(8, 0)", x.ridge(8, 0), BAD);
    }
}
