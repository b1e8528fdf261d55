/** Each promise of the document: ordinary inputs, the edges that it names, and wrong inputs. */
public final class PromisesTest {
    private static final int BAD = -1;
    private static final int STATE = -2;
    private static final int FULL = -3;
    private static final int NONE = -9;
    private static final int LEAST = Integer.MIN_VALUE;
    private static final int MOST = Integer.MAX_VALUE;

    // All ten are seen from 0, 0, each in a direction of its own.
    private static final String FAN =
            "p5 7 7;p7 7 7;p7 0 7;p7 1 7;p6 7 7;p7 2 7;p7 6 7;p7 3 7;p7 5 7;p7 4 7;";
    private static final String SINGLE = "p0 0 7;s0;";

    private static final Answers answers = new Answers();

    public static void main(String[] args) {
        newObject();
        type();
        clear();
        landItems();
        landFaults();
        landLimits();
        landAnew();
        landRefused();
        peak();
        ridge();
        notes();
        erases();
        mends();
        sketches();
        undo();
        undoTenAtMost();
        seenPastPeaks();
        seenPastRidges();
        seenWrong();
        bearing();
        stands();
        panorama();
        notch();
        fits();
        score();
        wholes();
        whole();
        best();
        doubt();
        odd();
        clouds();
        forget();
        unseen();
        keep();
        back();
        count();
        answers.end();
    }

    private static void due(String call, long got, long want) {
        answers.due(call, got, want);
    }

    /** All that can be asked without a change. */
    private static String stateOf(HorizonPeaks x) {
        StringBuilder all = new StringBuilder();
        for (int what = 0; what < 7; what++) {
            all.append(x.count(what)).append(' ');
        }
        for (int p = 0; p < x.count(0); p++) {
            all.append('p').append(x.peak(p, 0)).append(' ').append(x.peak(p, 1)).append(' ').append(x.peak(p, 2));
        }
        for (int r = 0; r < x.count(1); r++) {
            all.append('r').append(x.ridge(r, 0)).append(' ').append(x.ridge(r, 1));
        }
        for (int k = 0; k < x.count(3); k++) {
            all.append('n').append(x.notch(k, 0)).append(' ').append(x.notch(k, 1));
        }
        return all.append('u').append(x.unseen()).append('w').append(x.wholes()).toString();
    }

    private static void same(String call, HorizonPeaks x, String before) {
        answers.due("state behind " + call, stateOf(x), before);
    }

    private static void newObject() {
        HorizonPeaks x = new HorizonPeaks();
        answers.due("1 state", stateOf(x), "0 0 1 0 0 0 0 u0w4096");
        due("1 peak", x.peak(0, 0), BAD);
        due("1 panorama", x.panorama(3, 3, -1), 0);
        due("1 undo", x.undo(), STATE);
        due("1 back", x.back(0), STATE);
        due("1 best", x.best(3), 0);
        due("1 doubt", x.doubt(), 64);
        due("1 odd", x.odd(), NONE);
    }

    private static void type() {
        HorizonPeaks x = new HorizonPeaks();
        due("2 type(0)", x.type(0), 1);
        due("2 type(255)", x.type(255), 2);
        due("2 type(-1)", x.type(-1), BAD);
        due("2 type(256)", x.type(256), BAD);
        due("2 type(least)", x.type(LEAST), BAD);
        due("2 type(most)", x.type(MOST), BAD);
        for (int i = 3; i <= 140; i++) {
            due("2 type, letter " + i, x.type(' '), i);
        }
        due("2 type, letter 141", x.type(' '), FULL);
        due("2 type(256) to a full text", x.type(256), BAD);
        due("2 letters", x.count(5), 140);
        due("2 clear", x.clear(), 140);
        due("2 type behind clear", x.type(' '), 1);
    }

    private static void clear() {
        HorizonPeaks x = Answers.told("p1 2 3;");
        due("3 clear nothing", x.clear(), 0);
        Answers.type(x, "p1 1");
        x.notes(1, 1);
        due("3 clear", x.clear(), 4);
        due("3 clear again", x.clear(), 0);
        due("3 peaks stay", x.count(0), 1);
        due("3 notches stay", x.count(3), 1);
        Answers.type(x, "s2;");
        due("3 land behind clear", x.land(), 1);
    }

    private static void dueLand(String text, int want) {
        HorizonPeaks x = Answers.typed(text);
        due("4 land of '" + text + "'", x.land(), want);
        due("4 letters behind '" + text + "'", x.count(5), want < 0 ? text.length() : 0);
    }

    private static void landItems() {
        dueLand("", 0);
        dueLand("    ", 0);
        dueLand("p1 1 40;", 1);
        dueLand("p0 0 1;", 1);
        dueLand("p7 7 1;", 1);
        dueLand("  p  1  1  9  ;  ", 1);
        dueLand("p1 1 1;p1 2 1;r0 1;s0;", 4);
        dueLand("p1 1 1;p1 2 1;r1 0;r0 1;r0 1;", 5);
        dueLand("s3;s0;s2;", 3);
        dueLand("s 1 ; p 3 3 3 ; s 2 ;", 3);
        HorizonPeaks x = Answers.told("s3;s0;s2;");
        due("4 slack told last", x.count(2), 2);
        due("4 slack not told", Answers.told("p1 1 1;").count(2), 1);
    }

    private static void landFaults() {
        dueLand(";", -10);
        dueLand("x", -10);
        dueLand("  x", -12);
        dueLand("P1 1 1;", -10);
        dueLand("1", -10);
        dueLand("\u00001", -10);
        dueLand("\u00ff", -10);
        dueLand("\u00a0", -10);
        dueLand("\t", -10);
        dueLand("p", -11);
        dueLand("p ", -12);
        dueLand("p1 1 1", -16);
        dueLand("p1 1 1  ", -18);
        dueLand("p1 1 1;;", -17);
        dueLand("p1 1 1;\n", -17);
        dueLand("p8 1 1;", -11);
        dueLand("p 8 1 1;", -12);
        dueLand("p1 8 1;", -13);
        dueLand("p1 1 0;", -15);
        dueLand("p1 1 41;", -15);
        dueLand("p1 1 100;", -15);
        dueLand("p1 1 4294967297;", -15);
        dueLand("p1 1 18446744073709551617;", -15);
        dueLand("p1 1 100", -15);
        dueLand("p01 1 1;", -11);
        dueLand("p1 00 1;", -13);
        dueLand("p1 1 01;", -15);
        dueLand("p1 1;", -14);
        dueLand("p111;", -11);
        dueLand("p1 1 1 1;", -17);
        dueLand("p1 1 5p", -16);
        dueLand("p1,1 1;", -12);
        dueLand("p-1 1 1;", -11);
        dueLand("pr0 1;", -11);
        dueLand("p1 1 1;ps2;", -18);
        dueLand("p1 1 1;p1 1 2;", -20);
        dueLand("p1 1 1;p1  1", -21);
        dueLand("p1 1 1;p2 1 2;", 2);
        dueLand("r0 1;", -11);
        dueLand("p1 1 1;r0 0;", -20);
        dueLand("p1 1 1;r0 1;", -20);
        dueLand("p1 1 1;r1 0;", -18);
        dueLand("p1 1 1;p2 2 2;r0 2;", -27);
        dueLand("p1 1 1;p2 2 2;r0 1", -28);
        dueLand("p1 1 1;p2 2 2;r0 1 1;", -29);
        dueLand("p1 1 1;r0 1;p2 2 2;", -20);
        dueLand("s4;", -11);
        dueLand("s;", -11);
        dueLand("s1 2;", -13);
        dueLand("s1s2;", -12);
        dueLand("s00;", -11);
        dueLand("s", -11);
    }

    private static void landLimits() {
        dueLand(FAN, 10);
        dueLand(FAN + "p0 1 1;", -80);
        dueLand(FAN + "s1;  p", -85);
        String ridges = "r0 1;r0 1;r0 1;r0 1;r0 1;r0 1;r0 1;r0 1;";
        dueLand("p1 1 1;p2 2 2;" + ridges, 10);
        dueLand("p1 1 1;p2 2 2;" + ridges + "r0 1;", -64);
        dueLand("p1 1 1;p2 2 2;" + ridges + "p3 3 3;", 11);
        dueLand(" ".repeat(140), 0);
        dueLand("9".repeat(140), -10);
        dueLand("s1;".repeat(46) + "  ", 46);
        dueLand("s1;".repeat(46) + "s0", -150);
        // What a longer text had there before is gone.
        HorizonPeaks x = Answers.typed("p1 1 99999;  ;");
        x.clear();
        Answers.type(x, "p1 1 9");
        due("4 land of a shorter text", x.land(), -16);
        x.type(' ');
        due("4 land of a shorter text", x.land(), -17);
    }

    private static HorizonPeaks busy() {
        HorizonPeaks x = Answers.told("p7 0 7;p7 1 7;r0 1;s2;");
        x.notes(1, 2);
        x.notes(3, 4);
        x.keep(0);
        x.keep(1);
        x.clouds(0, 0, 0, 0);
        return x;
    }

    private static void landAnew() {
        HorizonPeaks x = busy();
        Answers.type(x, "p2 3 4;");
        due("4 land anew", x.land(), 1);
        answers.due("4 state anew", stateOf(x), "1 0 1 0 0 0 0 p2 3 4u1w4032");
        due("4 undo anew", x.undo(), STATE);
        due("4 image 0 anew", x.back(0), STATE);
        due("4 image 1 anew", x.back(1), STATE);
        due("4 a place where a peak was", x.seen(7, 0, 0), 1);
        due("4 land of nothing", x.land(), 0);
        answers.due("4 state of nothing", stateOf(x), "0 0 1 0 0 0 0 u0w4096");
        Answers.type(x, "p0 0 9;p2 0 1;p4 0 9;");
        due("4 land anew", x.land(), 3);
        due("4 seen at first", x.seen(1, 0, 2), 1);
        Answers.type(x, "p5 0 9;p2 0 9;p4 0 9;");
        due("4 land anew", x.land(), 3);
        due("4 hidden then", x.seen(1, 0, 2), 0);
        due("4 a place where a peak was", x.seen(0, 0, 1), 1);
    }

    private static void landRefused() {
        HorizonPeaks x = busy();
        Answers.type(x, "s0;p2 3 4;r0 0;");
        String before = stateOf(x);
        due("4 land with a fault", x.land(), -23);
        same("4 land with a fault", x, before);
        due("4 land with a fault again", x.land(), -23);
        due("4 what is seen stays", x.seen(2, 3, 1), 1);
        due("4 images stay", x.back(1), 2);
        due("4 clear behind a fault", x.clear(), 15);
    }

    private static void peak() {
        HorizonPeaks x = Answers.told("p4 0 10;p4 5 8;p0 4 40;");
        due("5 peak(0, 0)", x.peak(0, 0), 4);
        due("5 peak(0, 1)", x.peak(0, 1), 0);
        due("5 peak(0, 2)", x.peak(0, 2), 10);
        due("5 peak(1, 1)", x.peak(1, 1), 5);
        due("5 peak(2, 0)", x.peak(2, 0), 0);
        due("5 peak(2, 1)", x.peak(2, 1), 4);
        due("5 peak(2, 2)", x.peak(2, 2), 40);
        int[] wrong = {-1, 3, 10, LEAST, MOST};
        for (int n : wrong) {
            due("5 peak(" + n + ", 0)", x.peak(n, 0), BAD);
            due("5 peak(0, " + n + ")", x.peak(0, n), BAD);
        }
    }

    private static void ridge() {
        HorizonPeaks x = Answers.told("p1 1 1;p2 2 2;p3 5 2;r1 0;r0 2;");
        due("6 ridge(0, 0)", x.ridge(0, 0), 1);
        due("6 ridge(0, 1)", x.ridge(0, 1), 0);
        due("6 ridge(1, 0)", x.ridge(1, 0), 0);
        due("6 ridge(1, 1)", x.ridge(1, 1), 2);
        int[] wrong = {-1, 2, 8, LEAST, MOST};
        for (int n : wrong) {
            due("6 ridge(" + n + ", 0)", x.ridge(n, 0), BAD);
            due("6 ridge(0, " + n + ")", x.ridge(0, n), BAD);
        }
        due("6 no ridge", new HorizonPeaks().ridge(0, 0), BAD);
    }

    private static final int[][] WRONG_MARKS = {{-1, 0}, {64, 0}, {0, -1}, {0, 481}, {LEAST, 5}, {5, MOST}};

    private static void notes() {
        HorizonPeaks x = new HorizonPeaks();
        for (int[] mark : WRONG_MARKS) {
            due("7 notes wrong", x.notes(mark[0], mark[1]), BAD);
        }
        due("7 nothing noted", x.count(3), 0);
        due("7 nothing to undo", x.count(6), 0);
        due("7 notes", x.notes(0, 0), 1);
        due("7 notes", x.notes(63, 480), 2);
        due("7 notes the same", x.notes(63, 480), 3);
        due("7 notch 0", x.notch(0, 0) * 1000 + x.notch(0, 1), 0);
        due("7 notch 1", x.notch(1, 0) * 1000 + x.notch(1, 1), 63480);
        for (int n = 4; n <= 8; n++) {
            due("7 notes", x.notes(n, n), n);
        }
        String before = stateOf(x);
        due("7 notes to eight", x.notes(1, 1), FULL);
        due("7 notes wrong to eight", x.notes(64, 1), BAD);
        same("7 notes to eight", x, before);
        due("7 undone", x.undo(), 7);
        due("7 notes anew", x.notes(1, 1), 8);
    }

    private static void erases() {
        HorizonPeaks x = new HorizonPeaks();
        due("8 erases nothing", x.erases(0), BAD);
        for (int n = 1; n <= 8; n++) {
            x.notes(n, 10 * n);
        }
        due("8 erases(8)", x.erases(8), BAD);
        due("8 erases(-1)", x.erases(-1), BAD);
        due("8 erases(least)", x.erases(LEAST), BAD);
        due("8 erases(most)", x.erases(MOST), BAD);
        due("8 to undo", x.count(6), 8);
        due("8 erases(7)", x.erases(7), 7);
        due("8 erases(2)", x.erases(2), 6);
        due("8 erases(0)", x.erases(0), 5);
        int[] left = {2, 4, 5, 6, 7};
        for (int k = 0; k < left.length; k++) {
            due("8 bearing left", x.notch(k, 0), left[k]);
            due("8 stands left", x.notch(k, 1), 10 * left[k]);
        }
        due("8 beyond those left", x.erases(5), BAD);
        due("8 undone", x.undo(), 9);
        due("8 notch come back", x.notch(0, 0), 1);
    }

    private static void mends() {
        HorizonPeaks x = new HorizonPeaks();
        due("9 mends nothing", x.mends(0, 1, 1), BAD);
        x.notes(5, 50);
        x.notes(6, 60);
        for (int[] mark : WRONG_MARKS) {
            due("9 mends wrong", x.mends(1, mark[0], mark[1]), BAD);
        }
        due("9 mends(2)", x.mends(2, 6, 60), BAD);
        due("9 mends(-1)", x.mends(-1, 6, 60), BAD);
        due("9 mends(most)", x.mends(MOST, 6, 60), BAD);
        due("9 mends to what it is", x.mends(1, 6, 60), STATE);
        due("9 to undo", x.count(6), 2);
        due("9 mends the bearing", x.mends(1, 63, 60), 1);
        due("9 mends how it stands", x.mends(1, 63, 480), 1);
        due("9 mends both", x.mends(0, 0, 0), 1);
        due("9 notch 1", x.notch(1, 0) * 1000 + x.notch(1, 1), 63480);
        due("9 notch 0", x.notch(0, 0) * 1000 + x.notch(0, 1), 0);
        due("9 notches", x.count(3), 2);
        due("9 to undo", x.count(6), 5);
        due("9 undone", x.undo(), 4);
        due("9 notch 0 undone", x.notch(0, 0) * 1000 + x.notch(0, 1), 5050);
    }

    private static void sketches() {
        HorizonPeaks x = Answers.told(FAN);
        x.notes(9, 9);
        due("10 sketches eight of ten", x.sketches(0, 0, 0), 8);
        int[] bearings = {0, 1, 2, 3, 4, 5, 6, 8};
        for (int k = 0; k < 8; k++) {
            due("10 bearing", x.notch(k, 0), bearings[k]);
            due("10 stands", x.notch(k, 1), 12);
        }
        due("10 sketches the same", x.sketches(0, 0, 0), 8);
        due("10 sketches with a look", x.sketches(0, 0, 63), 8);
        due("10 bearing from the look on", x.notch(0, 0), 1);
        due("10 sketches with a look", x.sketches(0, 0, 3), 8);
        due("10 bearing from the look on", x.notch(0, 0), 61);
        due("10 to undo", x.count(6), 5);
        due("10 undone", x.undo(), 4);
        due("10 bearing undone", x.notch(0, 0), 1);
        String before = stateOf(x);
        due("10 sketches from a peak", x.sketches(7, 7, 0), BAD);
        int[] wrong = {-1, 8, LEAST, MOST};
        for (int n : wrong) {
            due("10 sketches from outside", x.sketches(n, 0, 0), BAD);
            due("10 sketches from outside", x.sketches(0, n, 0), BAD);
        }
        due("10 sketches with no look", x.sketches(0, 0, -1), BAD);
        due("10 sketches with no look", x.sketches(0, 0, 64), BAD);
        same("10 sketches refused", x, before);
        HorizonPeaks hidden = Answers.told("p2 0 5;p4 0 10;p6 0 16;");
        due("10 sketches but what is hidden", hidden.sketches(0, 0, 0), 2);
        due("10 stands", hidden.notch(1, 1), 32);
        HorizonPeaks bare = new HorizonPeaks();
        bare.notes(1, 1);
        due("10 sketches nothing", bare.sketches(0, 0, 0), 0);
        due("10 to undo", bare.count(6), 2);
    }

    private static void undo() {
        HorizonPeaks x = Answers.told("p7 0 7;");
        due("11 undo nothing", x.undo(), STATE);
        x.notes(1, 10);
        x.notes(2, 20);
        x.notes(3, 30);
        x.erases(1);
        x.mends(1, 4, 40);
        x.sketches(0, 0, 0);
        due("11 undo sketches", x.undo(), 5);
        due("11 notch", x.notch(1, 0), 4);
        due("11 undo mends", x.undo(), 4);
        due("11 notch", x.notch(1, 0) * 1000 + x.notch(1, 1), 3030);
        due("11 refused calls are not undone", x.notes(99, 0) + x.erases(9) + x.mends(0, 1, 10), BAD + BAD + STATE);
        due("11 undo erases", x.undo(), 3);
        due("11 notch", x.notch(1, 0) * 1000 + x.notch(1, 1), 2020);
        due("11 undo notes", x.undo(), 2);
        due("11 notches", x.count(3), 2);
        due("11 notes between", x.notes(7, 70), 3);
        due("11 undo notes", x.undo(), 2);
        due("11 undo notes", x.undo(), 1);
        due("11 undo notes", x.undo(), 0);
        due("11 undo nothing more", x.undo(), STATE);
        due("11 notches", x.count(3), 0);
    }

    private static void undoTenAtMost() {
        HorizonPeaks x = new HorizonPeaks();
        x.notes(0, 0);
        for (int n = 1; n <= 12; n++) {
            x.mends(0, n, n);
        }
        due("11 ten are known", x.count(6), 10);
        for (int n = 9; n >= 0; n--) {
            due("11 undo", x.undo(), n);
            due("11 notch", x.notch(0, 0), n + 2);
        }
        due("11 older ones are lost", x.undo(), STATE);
        due("11 notch", x.notch(0, 0), 2);
        for (int n = 1; n <= 12; n++) {
            x.mends(0, 20 + n, n);
        }
        due("11 undo", x.undo(), 9);
        due("11 notch", x.notch(0, 0), 31);
    }

    private static void dueSeen(String text, int x, int y, int p, int want) {
        due("12 seen(" + x + ", " + y + ", " + p + ") of '" + text + "'", Answers.told(text).seen(x, y, p), want);
    }

    private static void seenPastPeaks() {
        dueSeen("p2 0 5;p4 0 10;", 0, 0, 1, 0);
        dueSeen("p2 0 4;p4 0 10;", 0, 0, 1, 1);
        dueSeen("p2 0 5;p4 0 10;", 0, 0, 0, 1);
        dueSeen("p2 0 5;p4 0 10;", 7, 0, 1, 1);
        dueSeen("p2 0 5;p4 0 10;", 7, 0, 0, 0);
        dueSeen("p4 0 10;p2 0 5;", 0, 0, 0, 0);
        dueSeen("p2 1 5;p4 2 10;", 0, 0, 1, 0);
        dueSeen("p2 1 4;p4 2 10;", 0, 0, 1, 1);
        dueSeen("p5 6 3;p3 3 8;", 7, 7, 1, 1);
        dueSeen("p5 5 4;p3 3 8;", 7, 7, 1, 0);
        dueSeen("p5 5 3;p3 3 8;", 7, 7, 1, 1);
        dueSeen("p0 5 40;p0 2 1;", 0, 7, 1, 0);
        dueSeen("p2 1 40;p4 0 1;", 0, 0, 1, 1);
        dueSeen("p0 0 40;p4 0 1;", 2, 0, 1, 1);
        dueSeen("p6 0 40;p4 0 1;", 2, 0, 1, 1);
        dueSeen("p7 0 3;p3 0 1;", 0, 0, 0, 1);
        dueSeen("p7 0 3;p3 0 1;p5 0 2;", 0, 0, 0, 1);
        dueSeen("p7 0 3;p3 0 1;p5 0 3;", 0, 0, 0, 0);
        dueSeen("p3 3 1;", 3, 2, 0, 1);
    }

    private static void seenPastRidges() {
        dueSeen("p2 0 5;p2 4 5;p4 2 10;r0 1;", 0, 2, 2, 0);
        dueSeen("p2 0 5;p2 4 5;p4 2 10;r1 0;", 0, 2, 2, 0);
        dueSeen("p2 0 5;p2 4 5;p4 2 10;", 0, 2, 2, 1);
        dueSeen("p2 0 4;p2 4 5;p4 2 10;r0 1;", 0, 2, 2, 1);
        dueSeen("p2 0 4;p2 4 6;p4 2 10;r0 1;", 0, 2, 2, 0);
        dueSeen("p2 0 1;p2 3 40;p4 1 28;r0 1;", 0, 1, 2, 0);
        dueSeen("p2 0 1;p2 3 40;p4 1 29;r0 1;", 0, 1, 2, 1);
        dueSeen("p2 0 1;p2 3 40;p4 1 28;r1 0;", 0, 1, 2, 0);
        dueSeen("p2 0 1;p2 3 40;p4 1 29;r1 0;", 0, 1, 2, 1);
        dueSeen("p1 1 4;p2 0 6;p3 1 10;r0 1;", 0, 0, 2, 0);
        dueSeen("p1 1 4;p2 0 6;p3 1 11;r0 1;", 0, 0, 2, 1);
        // Of several ridges each may hide.
        dueSeen("p2 0 5;p2 4 5;p4 2 10;p7 7 1;r0 3;r1 3;r1 0;", 0, 2, 2, 0);
        // A ridge along the line counts by its ends alone.
        dueSeen("p2 0 1;p6 0 40;p4 0 30;r0 1;", 0, 0, 2, 1);
        dueSeen("p2 0 1;p4 0 40;p6 0 30;r0 1;", 0, 0, 2, 0);
        // At S, at p, behind p, behind S, beside the line.
        dueSeen("p0 0 40;p0 4 40;p4 2 1;r0 1;", 0, 2, 2, 1);
        dueSeen("p4 0 40;p4 4 40;p4 2 1;r0 1;", 0, 2, 2, 1);
        dueSeen("p4 2 1;p4 7 40;r0 1;", 0, 2, 0, 1);
        dueSeen("p6 0 40;p6 4 40;p4 2 1;r0 1;", 0, 2, 2, 1);
        dueSeen("p0 0 40;p0 4 40;p4 2 1;r0 1;", 1, 2, 2, 1);
        dueSeen("p2 3 40;p2 5 40;p4 2 1;r0 1;", 0, 2, 2, 1);
        dueSeen("p1 3 40;p3 3 40;p4 2 1;r0 1;", 0, 2, 2, 1);
    }

    private static void seenWrong() {
        HorizonPeaks x = Answers.told("p2 0 5;p4 0 10;");
        int[] wrong = {-1, 8, LEAST, MOST};
        for (int n : wrong) {
            due("12 seen from outside", x.seen(n, 0, 0), BAD);
            due("12 seen from outside", x.seen(0, n, 0), BAD);
            due("12 seen no peak", x.seen(0, 0, n), BAD);
            due("13 bearing from outside", x.bearing(n, 0, 0), BAD);
            due("13 bearing from outside", x.bearing(0, n, 0), BAD);
            due("13 bearing of no peak", x.bearing(0, 0, n), BAD);
            due("14 stands from outside", x.stands(n, 0, 0), BAD);
            due("14 stands from outside", x.stands(0, n, 0), BAD);
            due("14 stands of no peak", x.stands(0, 0, n), BAD);
        }
        due("12 seen no peak", x.seen(0, 0, 2), BAD);
        due("13 bearing of no peak", x.bearing(0, 0, 2), BAD);
        due("14 stands of no peak", x.stands(0, 0, 2), BAD);
        due("12 seen from a peak", x.seen(4, 0, 0), BAD);
        due("13 bearing from a peak", x.bearing(4, 0, 0), BAD);
        due("13 bearing from the peak itself", x.bearing(2, 0, 0), BAD);
        due("14 stands from a peak", x.stands(4, 0, 0), BAD);
        due("14 stands from the peak itself", x.stands(2, 0, 0), BAD);
    }

    private static void bearing() {
        // dx, dy, and what is due.
        int[][] table = {
            {3, 0, 0}, {4, 1, 2}, {3, 1, 2}, {3, 3, 8}, {1, 3, 13}, {0, 3, 16}, {-1, 3, 18}, {-3, 3, 24},
            {-3, 1, 29}, {-3, 0, 32}, {-3, -1, 34}, {-3, -3, 40}, {-1, -3, 45}, {0, -3, 48}, {1, -3, 50},
            {3, -3, 56}, {4, -1, 62}, {3, -1, 61}, {4, 3, 6}, {3, 4, 10}, {-2, 3, 21}, {2, -3, 53}};
        for (int[] row : table) {
            HorizonPeaks x = Answers.told("p" + (3 + row[0]) + " " + (3 + row[1]) + " 9;");
            due("13 bearing of " + row[0] + ", " + row[1], x.bearing(3, 3, 0), row[2]);
        }
        due("13 bearing of 7, -1", Answers.told("p7 6 1;").bearing(0, 7, 0), 62);
        HorizonPeaks x = Answers.told("p2 1 5;p4 2 10;");
        due("13 seen", x.seen(0, 0, 1), 0);
        due("13 bearing of what is hidden", x.bearing(0, 0, 1), 4);
    }

    private static void stands() {
        due("14 stands", Answers.told("p7 0 1;").stands(0, 0, 0), 1);
        due("14 stands", Answers.told("p1 0 40;").stands(0, 0, 0), 480);
        due("14 stands", Answers.told("p1 1 40;").stands(0, 0, 0), 480);
        due("14 stands", Answers.told("p0 6 5;").stands(3, 4, 0), 20);
        due("14 stands", Answers.told("p5 0 5;").stands(3, 7, 0), 8);
        due("14 stands", Answers.told("p0 5 1;").stands(0, 0, 0), 2);
        due("14 stands of what is hidden", Answers.told("p2 1 5;p4 2 10;").stands(0, 0, 1), 30);
    }

    private static void duePanorama(HorizonPeaks x, int px, int py, int... peaks) {
        due("15 panorama(-1)", x.panorama(px, py, -1), peaks.length);
        for (int k = 0; k < peaks.length; k++) {
            due("15 panorama(" + k + ")", x.panorama(px, py, k), peaks[k]);
        }
        due("15 panorama beyond", x.panorama(px, py, peaks.length), NONE);
        due("15 panorama(most)", x.panorama(px, py, MOST), NONE);
    }

    private static void panorama() {
        duePanorama(Answers.told(FAN), 0, 0, 2, 3, 5, 7, 9, 8, 6, 1, 4, 0);
        // Round from the direction 1, 0; the half behind, too.
        duePanorama(Answers.told("p7 2 9;p3 1 9;p0 3 9;p1 5 9;p3 6 9;p6 4 9;p7 3 9;p0 0 9;"), 3, 3,
                6, 5, 4, 3, 2, 7, 1, 0);
        // In one direction the nearer is first, in whatever order they are told.
        duePanorama(Answers.told("p6 0 40;p4 0 10;p2 0 2;p0 3 1;"), 0, 0, 2, 1, 0, 3);
        duePanorama(Answers.told("p2 0 2;p6 0 40;p4 0 10;"), 0, 0, 0, 2, 1);
        duePanorama(Answers.told("p2 0 20;p6 0 40;p4 0 10;"), 0, 0, 0);
        // One bearing, two directions.
        HorizonPeaks near = Answers.told("p7 6 9;p6 5 9;");
        due("15 one bearing", near.bearing(0, 0, 0), near.bearing(0, 0, 1));
        duePanorama(near, 0, 0, 1, 0);
        duePanorama(new HorizonPeaks(), 5, 5);
        due("15 panorama(-2)", near.panorama(0, 0, -2), BAD);
        due("15 panorama(least)", near.panorama(0, 0, LEAST), BAD);
        due("15 panorama from a peak", near.panorama(7, 6, -1), BAD);
        int[] wrong = {-1, 8, LEAST, MOST};
        for (int n : wrong) {
            due("15 panorama from outside", near.panorama(n, 0, 0), BAD);
            due("15 panorama from outside", near.panorama(0, n, 0), BAD);
        }
    }

    private static void notch() {
        HorizonPeaks x = new HorizonPeaks();
        due("16 no notch", x.notch(0, 0), BAD);
        x.notes(5, 50);
        x.notes(6, 60);
        due("16 notch(0, 0)", x.notch(0, 0), 5);
        due("16 notch(0, 1)", x.notch(0, 1), 50);
        due("16 notch(1, 0)", x.notch(1, 0), 6);
        due("16 notch(1, 1)", x.notch(1, 1), 60);
        int[] wrong = {-1, 2, LEAST, MOST};
        for (int n : wrong) {
            due("16 notch(" + n + ", 0)", x.notch(n, 0), BAD);
            due("16 notch(0, " + n + ")", x.notch(0, n), BAD);
        }
    }

    private static void fits() {
        for (int slack = 0; slack <= 3; slack++) {
            // From 0, 0 it has the bearing 0 and stands 60.
            HorizonPeaks x = Answers.told("p7 0 35;s" + slack + ";");
            x.notes(0, 60);
            x.notes(0, 60);
            for (int off = -5; off <= 5; off++) {
                x.mends(0, (64 + off) % 64, 60);
                x.mends(1, 0, 60 + off);
                int want = Math.abs(off) <= slack ? 1 : 0;
                due("17 fits, bearing off by " + off, x.fits(0, 0, 0, 0, 0), want);
                due("17 fits, stands off by " + off, x.fits(0, 0, 0, 1, 0), want);
                due("17 fits, bearing put right by the look", x.fits(0, 0, (64 - off) % 64, 0, 0), 1);
            }
        }
        HorizonPeaks behind = Answers.told("p3 0 40;p7 0 35;");
        behind.notes(0, 60);
        due("17 hidden fits not", behind.fits(0, 0, 0, 0, 1), 0);
        HorizonPeaks x = Answers.told("p7 0 35;p3 0 1;s1;");
        x.notes(60, 60);
        due("17 fits with a look", x.fits(0, 0, 4, 0, 0), 1);
        due("17 fits with a look", x.fits(0, 0, 3, 0, 0), 1);
        due("17 fits with a look", x.fits(0, 0, 5, 0, 0), 1);
        due("17 fits with a look", x.fits(0, 0, 6, 0, 0), 0);
        due("17 fits with a look", x.fits(0, 0, 60, 0, 0), 0);
        due("17 the other fits not", x.fits(0, 0, 4, 0, 1), 0);
        int[] wrong = {-1, 64, LEAST, MOST};
        for (int n : wrong) {
            due("17 fits from outside", x.fits(n, 0, 4, 0, 0), BAD);
            due("17 fits from outside", x.fits(0, n, 4, 0, 0), BAD);
            due("17 fits with no look", x.fits(0, 0, n, 0, 0), BAD);
            due("17 fits no notch", x.fits(0, 0, 4, n, 0), BAD);
            due("17 fits of no peak", x.fits(0, 0, 4, 0, n), BAD);
        }
        due("17 fits from outside", x.fits(8, 0, 4, 0, 0), BAD);
        due("17 fits from outside", x.fits(0, 8, 4, 0, 0), BAD);
        due("17 fits from a peak", x.fits(3, 0, 4, 0, 0), BAD);
        due("17 fits no notch", x.fits(0, 0, 4, 1, 0), BAD);
        due("17 fits of no peak", x.fits(0, 0, 4, 0, 2), BAD);
    }

    private static void score() {
        // From 0, 0: bearings 0, 1, 2, all stand 12.
        HorizonPeaks x = Answers.told("p7 0 7;p7 1 7;p7 2 7;s1;");
        due("18 score of no notches", x.score(0, 0, 0), 0);
        x.notes(1, 12);
        due("18 score", x.score(0, 0, 0), 1);
        x.notes(0, 12);
        due("18 score", x.score(0, 0, 0), 2);
        x.notes(63, 12);
        due("18 score, each gives way", x.score(0, 0, 0), 3);
        due("18 score to another look", x.score(0, 0, 63), 2);
        due("18 score to another look", x.score(0, 0, 62), 1);
        x.notes(63, 13);
        due("18 score, two for one peak", x.score(0, 0, 0), 3);
        x.notes(32, 12);
        due("18 score behind", x.score(0, 0, 32), 1);
        due("18 score of what stands otherwise", x.score(3, 0, 0), 0);
        HorizonPeaks eight = Answers.told(FAN);
        eight.sketches(0, 0, 17);
        due("18 score of a sketch", eight.score(0, 0, 17), 8);
        int[] wrong = {-1, 64, LEAST, MOST};
        for (int n : wrong) {
            due("18 score from outside", x.score(n, 0, 0), BAD);
            due("18 score from outside", x.score(0, n, 0), BAD);
            due("18 score with no look", x.score(0, 0, n), BAD);
        }
        due("18 score from outside", x.score(8, 0, 0), BAD);
        due("18 score from outside", x.score(0, 8, 0), BAD);
        due("18 score from a peak", x.score(7, 1, 0), BAD);
    }

    private static HorizonPeaks single(int stands) {
        HorizonPeaks x = Answers.told(SINGLE);
        x.notes(0, stands);
        return x;
    }

    private static void wholes() {
        due("19 wholes of no notches", Answers.told(FAN).wholes(), 54 * 64);
        HorizonPeaks x = single(12);
        due("19 wholes", x.wholes(), 15);
        x.mends(0, 0, 480);
        due("19 wholes of none", x.wholes(), 0);
        x.undo();
        due("19 wholes undone", x.wholes(), 15);
        HorizonPeaks wide = Answers.told("p0 0 7;s1;");
        wide.notes(0, 12);
        due("19 wholes with slack", wide.wholes(), 45);
        wide.notes(0, 12);
        due("19 wholes of two notches for one peak", wide.wholes(), 0);
        wide.keep(0);
        wide.erases(0);
        due("19 wholes of one left", wide.wholes(), 45);
        wide.back(0);
        due("19 wholes behind back", wide.wholes(), 0);
    }

    private static void dueWhole(HorizonPeaks x, int k, int px, int py, int look) {
        due("20 whole(" + k + ", 0)", x.whole(k, 0), px);
        due("20 whole(" + k + ", 1)", x.whole(k, 1), py);
        due("20 whole(" + k + ", 2)", x.whole(k, 2), look);
    }

    private static void whole() {
        HorizonPeaks x = single(12);
        dueWhole(x, 0, 0, 7, 48);
        dueWhole(x, 1, 1, 7, 46);
        dueWhole(x, 6, 6, 7, 41);
        dueWhole(x, 7, 7, 0, 32);
        dueWhole(x, 14, 7, 7, 40);
        dueWhole(x, 15, NONE, NONE, NONE);
        dueWhole(x, MOST, NONE, NONE, NONE);
        due("20 whole(-1, 0)", x.whole(-1, 0), BAD);
        due("20 whole(least, 0)", x.whole(LEAST, 0), BAD);
        due("20 whole(0, -1)", x.whole(0, -1), BAD);
        due("20 whole(0, 3)", x.whole(0, 3), BAD);
        due("20 whole(15, 3)", x.whole(15, 3), BAD);
        due("20 whole(0, most)", x.whole(0, MOST), BAD);
        dueWhole(new HorizonPeaks(), 0, 0, 0, 0);
        HorizonPeaks bare = Answers.told(SINGLE);
        dueWhole(bare, 0, 0, 1, 0);
        dueWhole(bare, 65, 0, 2, 1);
        dueWhole(bare, 4031, 7, 7, 63);
        dueWhole(bare, 4032, NONE, NONE, NONE);
    }

    private static void dueBest(HorizonPeaks x, int px, int py, int look, int score) {
        due("21 best(0)", x.best(0), px);
        due("21 best(1)", x.best(1), py);
        due("21 best(2)", x.best(2), look);
        due("21 best(3)", x.best(3), score);
    }

    private static void best() {
        HorizonPeaks x = single(12);
        dueBest(x, 0, 7, 48, 1);
        x.notes(20, 333);
        dueBest(x, 0, 7, 48, 1);
        x.notes(8, 14);
        // 6 away to the left, and the look that brings it to the notch.
        dueBest(x, 0, 6, 40, 1);
        x.mends(0, 0, 480);
        x.erases(2);
        dueBest(x, 0, 1, 0, 0);
        dueBest(Answers.told(FAN), 0, 0, 0, 0);
        due("21 best(-1)", x.best(-1), BAD);
        due("21 best(4)", x.best(4), BAD);
        due("21 best(least)", x.best(LEAST), BAD);
        due("21 best(most)", x.best(MOST), BAD);
    }

    private static void doubt() {
        HorizonPeaks x = single(12);
        due("22 doubt", x.doubt(), 15);
        x.mends(0, 0, 480);
        due("22 doubt of nothing that fits", x.doubt(), 63);
        x.mends(0, 0, 84);
        // How high it stands tells the ring round the peak: 1 away there are 3 places.
        due("22 doubt", x.doubt(), 3);
        HorizonPeaks fan = Answers.told(FAN);
        due("22 doubt of no notches", fan.doubt(), 54);
        // Only from x = 0 they stand so, and from 0, 1 and 0, 2 the bearings lie otherwise.
        HorizonPeaks three = Answers.told("p7 0 7;p7 1 8;p7 2 9;s0;");
        three.sketches(0, 0, 0);
        due("22 doubt of a sketch", three.doubt(), 6);
    }

    private static void odd() {
        HorizonPeaks x = single(12);
        due("23 odd, the only one", x.odd(), 0);
        x.notes(0, 333);
        due("23 odd, that which fits nothing", x.odd(), 1);
        x.erases(0);
        x.notes(0, 12);
        due("23 odd, that which fits nothing", x.odd(), 0);
        x.mends(1, 0, 334);
        due("23 odd of several the lowest", x.odd(), 0);
        x.notes(0, 12);
        due("23 odd of three", x.odd(), 0);
        x.mends(0, 0, 12);
        x.mends(1, 0, 84);
        x.erases(2);
        // Without the first 3 views are whole (1 away), without the second 15 (7 away).
        due("23 odd, more views without it", x.odd(), 1);
        x.mends(0, 0, 84);
        x.mends(1, 0, 12);
        due("23 odd, more views without it", x.odd(), 0);
        // There is one view alone, the first, that lacks just the third notch.
        HorizonPeaks first = Answers.told("p7 7 40;p1 0 40;s0;");
        first.sketches(0, 0, 0);
        due("23 wholes", first.wholes(), 1);
        first.notes(30, 333);
        due("23 odd, one view without it", first.odd(), 2);
        due("23 odd without notches", Answers.told(FAN).odd(), NONE);
        HorizonPeaks eight = Answers.told("p7 7 40;p7 6 38;p7 5 36;p7 4 34;p7 3 32;p7 2 30;p7 1 28;p7 0 26;s0;");
        eight.sketches(0, 0, 0);
        eight.mends(5, 60, 480);
        due("23 odd of eight", eight.odd(), 5);
        eight.mends(5, eight.bearing(0, 0, 2), eight.stands(0, 0, 2));
        due("23 odd of eight put right", eight.wholes() > 0 ? 1 : 0, 1);
        // From 0, 0 a whole sketch, and one notch too many.
        HorizonPeaks fan = Answers.told("p7 0 7;p7 1 8;p7 2 9;s0;");
        fan.sketches(0, 0, 0);
        fan.notes(40, 480);
        fan.erases(0);
        due("23 odd in a sketch", fan.odd(), 2);
    }

    private static void clouds() {
        HorizonPeaks x = Answers.told("p7 0 7;p7 1 7;");
        int[] wrong = {-1, 64, LEAST, MOST};
        for (int n : wrong) {
            due("24 clouds from outside", x.clouds(n, 0, 0, 0), BAD);
            due("24 clouds from outside", x.clouds(0, n, 0, 0), BAD);
            due("24 clouds with no look", x.clouds(0, 0, n, 0), BAD);
            due("24 clouds neither", x.clouds(0, 0, 0, n), BAD);
        }
        due("24 clouds from outside", x.clouds(8, 0, 0, 0), BAD);
        due("24 clouds from outside", x.clouds(0, 8, 0, 0), BAD);
        due("24 clouds neither", x.clouds(0, 0, 0, 2), BAD);
        due("24 clouds from a peak", x.clouds(7, 1, 0, 0), BAD);
        due("24 none told", x.count(4), 0);
        for (int n = 1; n <= 6; n++) {
            due("24 clouds", x.clouds(0, 0, 63, n % 2), n);
        }
        due("24 clouds, seven", x.clouds(0, 0, 0, 0), FULL);
        due("24 clouds wrong, seven", x.clouds(0, 0, 0, 2), BAD);
        due("24 six told", x.count(4), 6);
        due("24 nothing to undo", x.count(6), 0);
    }

    private static void forget() {
        HorizonPeaks x = Answers.told("p7 0 7;p7 1 7;");
        due("25 forget nothing", x.forget(), 0);
        x.clouds(0, 0, 0, 0);
        x.clouds(0, 0, 0, 1);
        due("25 unseen", x.unseen(), 0);
        due("25 forget", x.forget(), 2);
        due("25 forget again", x.forget(), 0);
        due("25 unseen", x.unseen(), 3);
        due("25 clouds anew", x.clouds(0, 0, 0, 1), 1);
        due("25 unseen anew", x.unseen(), 3);
    }

    private static void unseen() {
        HorizonPeaks x = Answers.told("p7 0 7;p7 1 7;s0;");
        due("26 unseen, nothing told", x.unseen(), 3);
        x.notes(0, 12);
        x.clouds(0, 0, 0, 1);
        due("26 unseen", x.unseen(), 2);
        x.clouds(0, 0, 1, 0);
        due("26 unseen, two told", x.unseen(), 2);
        x.clouds(0, 0, 0, 0);
        due("26 unseen, not both", x.unseen(), 0);
        x.forget();
        // From 3, 0 neither stands so, whatever is in the cloud.
        x.clouds(3, 0, 0, 0);
        due("26 unseen, told from elsewhere", x.unseen(), 3);
        x.clouds(3, 0, 0, 1);
        due("26 unseen, told from elsewhere", x.unseen(), 0);
        x.forget();
        x.clouds(0, 0, 0, 0);
        due("26 unseen", x.unseen(), 1);
        x.mends(0, 1, 12);
        due("26 unseen as notches are now", x.unseen(), 2);
        x.erases(0);
        due("26 unseen without notches", x.unseen(), 0);
        due("26 the peaks are seen all the same", x.seen(0, 0, 0) + x.seen(0, 0, 1), 2);
        // The one in the cloud hides the other all the same.
        HorizonPeaks behind = Answers.told("p2 0 10;p4 0 10;s0;");
        behind.notes(0, 30);
        behind.clouds(0, 0, 0, 1);
        due("26 unseen, hidden all the same", behind.unseen(), 0);
        behind.forget();
        behind.clouds(0, 0, 0, 0);
        due("26 unseen, hidden all the same", behind.unseen(), 3);
        due("26 unseen of no peaks", new HorizonPeaks().unseen(), 0);
        due("26 unseen of ten", Answers.told(FAN).unseen(), 1023);
    }

    private static void keep() {
        HorizonPeaks x = new HorizonPeaks();
        due("27 keep(-1)", x.keep(-1), BAD);
        due("27 keep(2)", x.keep(2), BAD);
        due("27 keep(least)", x.keep(LEAST), BAD);
        due("27 keep(most)", x.keep(MOST), BAD);
        due("27 keep nothing", x.keep(0), 0);
        x.notes(1, 2);
        x.notes(3, 4);
        due("27 keep", x.keep(1), 2);
        due("27 to undo", x.count(6), 2);
        x.mends(0, 9, 9);
        due("27 nothing was kept of later", x.back(1), 2);
        due("27 notch", x.notch(0, 0) * 10 + x.notch(0, 1), 12);
        x.mends(0, 8, 8);
        due("27 the image stays", x.back(1), 2);
        due("27 notch", x.notch(0, 0) * 10 + x.notch(0, 1), 12);
        x.notes(5, 6);
        due("27 keep over it", x.keep(1), 3);
        due("27 the other image", x.back(0), 0);
        due("27 the later image", x.back(1), 3);
    }

    private static void back() {
        HorizonPeaks x = Answers.told("p7 0 7;");
        due("28 back(-1)", x.back(-1), BAD);
        due("28 back(2)", x.back(2), BAD);
        due("28 back(least)", x.back(LEAST), BAD);
        due("28 back(most)", x.back(MOST), BAD);
        due("28 back(0)", x.back(0), STATE);
        x.notes(1, 2);
        x.keep(0);
        due("28 back(1)", x.back(1), STATE);
        due("28 to undo", x.count(6), 1);
        x.clouds(0, 0, 0, 1);
        x.notes(3, 4);
        x.type('p');
        due("28 back", x.back(0), 1);
        due("28 notches", x.count(3), 1);
        due("28 nothing to undo", x.count(6), 0);
        due("28 undo", x.undo(), STATE);
        due("28 clouds stay", x.count(4), 1);
        due("28 letters stay", x.count(5), 1);
        due("28 back again", x.back(0), 1);
        x.erases(0);
        due("28 undo behind", x.undo(), 0);
        due("28 notch", x.notch(0, 0) * 10 + x.notch(0, 1), 12);
    }

    private static void count() {
        HorizonPeaks x = busy();
        x.type('p');
        x.type('1');
        x.type(' ');
        x.clouds(0, 0, 0, 1);
        x.erases(0);
        int[] want = {2, 1, 2, 1, 2, 3, 3};
        for (int what = 0; what < want.length; what++) {
            due("29 count(" + what + ")", x.count(what), want[what]);
        }
        due("29 count(-1)", x.count(-1), BAD);
        due("29 count(7)", x.count(7), BAD);
        due("29 count(least)", x.count(LEAST), BAD);
        due("29 count(most)", x.count(MOST), BAD);
        due("29 slack 3", Answers.told("s3;").count(2), 3);
        due("29 slack 0", Answers.told("s0;").count(2), 0);
    }
}
