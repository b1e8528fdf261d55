/** Edges of the promises 7 to 11 and 16: NOTCHES, what is DONE to them, and UNDONE. */
final class SketchEdges {
    private static final int BAD = Edges.BAD;
    private static final int STATE = Edges.STATE;
    private static final int FULL = Edges.FULL;
    private static final int LEAST = Edges.LEAST;
    private static final int MOST = Edges.MOST;
    private static final int[] NO_BEARINGS = {-1, 64, LEAST, MOST};
    private static final int[] NO_STANDS = {-1, 481, LEAST, MOST};

    private SketchEdges() {
    }

    private static void due(String call, long got, long want) {
        Edges.due(call, got, want);
    }

    private static void dueNotch(HorizonPeaks x, int k, int bearing, int stands) {
        due("notch(" + k + ", 0)", x.notch(k, 0), bearing);
        due("notch(" + k + ", 1)", x.notch(k, 1), stands);
    }

    /** As many NOTCHES, the BEARING of each its number and ten times that how it STANDS. */
    private static HorizonPeaks noted(int many) {
        HorizonPeaks x = new HorizonPeaks();
        for (int k = 0; k < many; k++) {
            x.notes(k, 10 * k);
        }
        return x;
    }

    /** As many PEAKS that are SEEN from 0, 0. */
    private static HorizonPeaks fanOf(int many) {
        return Edges.told(Edges.FAN.substring(0, 7 * many));
    }

    // ---- promise 7

    static void promise07_bearingIs0To63() {
        HorizonPeaks x = new HorizonPeaks();
        due("notes(0, 7)", x.notes(0, 7), 1);
        due("notes(63, 7)", x.notes(63, 7), 2);
        dueNotch(x, 0, 0, 7);
        dueNotch(x, 1, 63, 7);
        for (int bearing : NO_BEARINGS) {
            Edges.refused("notes(" + bearing + ", 7)", Edges::busy, o -> o.notes(bearing, 7), BAD);
        }
    }

    static void promise07_standsIs0To480() {
        HorizonPeaks x = new HorizonPeaks();
        due("notes(7, 0)", x.notes(7, 0), 1);
        due("notes(7, 480)", x.notes(7, 480), 2);
        dueNotch(x, 0, 7, 0);
        dueNotch(x, 1, 7, 480);
        for (int stands : NO_STANDS) {
            Edges.refused("notes(7, " + stands + ")", Edges::busy, o -> o.notes(7, stands), BAD);
        }
    }

    static void promise07_eightNotches() {
        HorizonPeaks x = noted(7);
        due("notes, the eighth", x.notes(7, 70), 8);
        due("notes, the ninth", x.notes(8, 80), FULL);
        for (int k = 0; k < 8; k++) {
            dueNotch(x, k, k, 10 * k);
        }
    }

    static void promise07_fullIsRefused() {
        Edges.refused("notes(5, 5) to eight", Edges::full, x -> x.notes(5, 5), FULL);
        Edges.refused("notes(7, 7) to eight, as the last is", Edges::full, x -> x.notes(7, 7), FULL);
    }

    static void promise07_badAheadOfFull() {
        Edges.refused("notes(64, 5) to eight", Edges::full, x -> x.notes(64, 5), BAD);
        Edges.refused("notes(5, 481) to eight", Edges::full, x -> x.notes(5, 481), BAD);
    }

    static void promise07_notFullWhenOneIsErased() {
        HorizonPeaks x = Edges.full();
        x.erases(0);
        due("notes", x.notes(1, 1), 8);
        due("notes", x.notes(1, 1), FULL);
    }

    static void promise07_twoNotchesMayBeAlike() {
        HorizonPeaks x = new HorizonPeaks();
        due("notes(1, 1)", x.notes(1, 1), 1);
        due("notes(1, 1)", x.notes(1, 1), 2);
    }

    static void promise07_withoutPeaksToo() {
        due("notes(1, 1)", new HorizonPeaks().notes(1, 1), 1);
    }

    // ---- promise 8

    static void promise08_notchOfThoseThereAre() {
        int[] wrong = {-1, 2, 8, LEAST, MOST};
        for (int k : wrong) {
            Edges.refused("erases(" + k + ") of two", Edges::busy, x -> x.erases(k), BAD);
        }
        Edges.refused("erases(8) of eight", Edges::full, x -> x.erases(8), BAD);
        due("erases(1) of two", Edges.busy().erases(1), 1);
        due("erases(7) of eight", Edges.full().erases(7), 7);
    }

    static void promise08_noNotches() {
        Edges.refused("erases(0)", HorizonPeaks::new, x -> x.erases(0), BAD);
    }

    static void promise08_theOnlyOne() {
        HorizonPeaks x = noted(1);
        due("erases(0)", x.erases(0), 0);
        due("count(3)", x.count(3), 0);
        due("erases(0) again", x.erases(0), BAD);
        due("notch(0, 0)", x.notch(0, 0), BAD);
    }

    static void promise08_thoseBehindAreOneLower() {
        for (int erased = 0; erased < 8; erased++) {
            HorizonPeaks x = noted(8);
            due("erases(" + erased + ")", x.erases(erased), 7);
            for (int k = 0; k < 7; k++) {
                int was = k < erased ? k : k + 1;
                dueNotch(x, k, was, 10 * was);
            }
            due("notch(7, 0)", x.notch(7, 0), BAD);
        }
    }

    // ---- promise 9

    static void promise09_notchOfThoseThereAre() {
        int[] wrong = {-1, 2, 8, LEAST, MOST};
        for (int k : wrong) {
            Edges.refused("mends(" + k + ", 5, 5) of two", Edges::busy, x -> x.mends(k, 5, 5), BAD);
        }
        Edges.refused("mends(0, 5, 5) of none", HorizonPeaks::new, x -> x.mends(0, 5, 5), BAD);
        Edges.refused("mends(8, 5, 5) of eight", Edges::full, x -> x.mends(8, 5, 5), BAD);
        due("mends(1, 5, 5) of two", Edges.busy().mends(1, 5, 5), 1);
        due("mends(7, 5, 5) of eight", Edges.full().mends(7, 5, 5), 1);
    }

    static void promise09_bearingIs0To63() {
        HorizonPeaks x = noted(2);
        due("mends(1, 0, 5)", x.mends(1, 0, 5), 1);
        dueNotch(x, 1, 0, 5);
        due("mends(1, 63, 5)", x.mends(1, 63, 5), 1);
        dueNotch(x, 1, 63, 5);
        for (int bearing : NO_BEARINGS) {
            Edges.refused("mends(0, " + bearing + ", 5)", Edges::busy, o -> o.mends(0, bearing, 5), BAD);
        }
    }

    static void promise09_standsIs0To480() {
        HorizonPeaks x = noted(2);
        due("mends(1, 5, 0)", x.mends(1, 5, 0), 1);
        dueNotch(x, 1, 5, 0);
        due("mends(1, 5, 480)", x.mends(1, 5, 480), 1);
        dueNotch(x, 1, 5, 480);
        for (int stands : NO_STANDS) {
            Edges.refused("mends(0, 5, " + stands + ")", Edges::busy, o -> o.mends(0, 5, stands), BAD);
        }
    }

    static void promise09_stateIfItIsThat() {
        Edges.refused("mends(0, 0, 12)", Edges::busy, x -> x.mends(0, 0, 12), STATE);
        Edges.refused("mends(1, 1, 12)", Edges::busy, x -> x.mends(1, 1, 12), STATE);
        Edges.refused("mends(7, 7, 7)", Edges::full, x -> x.mends(7, 7, 7), STATE);
    }

    static void promise09_oneOfTheTwoIsAlike() {
        HorizonPeaks x = noted(2);
        due("mends(1, 1, 11)", x.mends(1, 1, 11), 1);
        dueNotch(x, 1, 1, 11);
        due("mends(1, 2, 11)", x.mends(1, 2, 11), 1);
        dueNotch(x, 1, 2, 11);
        due("count(6)", x.count(6), 4);
    }

    static void promise09_asAnotherNotchIs() {
        HorizonPeaks x = noted(2);
        due("mends(1, 0, 0)", x.mends(1, 0, 0), 1);
        dueNotch(x, 0, 0, 0);
        dueNotch(x, 1, 0, 0);
        due("count(3)", x.count(3), 2);
    }

    // ---- promise 10

    static void promise10_place() {
        int[] wrong = {-1, 8, LEAST, MOST};
        for (int n : wrong) {
            Edges.refused("sketches(" + n + ", 0, 0)", Edges::busy, x -> x.sketches(n, 0, 0), BAD);
            Edges.refused("sketches(0, " + n + ", 0)", Edges::busy, x -> x.sketches(0, n, 0), BAD);
        }
        due("sketches(0, 0, 0)", fanOf(1).sketches(0, 0, 0), 1);
        due("sketches(0, 7, 0)", fanOf(1).sketches(0, 7, 0), 1);
        due("sketches(7, 0, 0)", fanOf(1).sketches(7, 0, 0), 1);
        due("sketches(7, 7, 0)", fanOf(1).sketches(7, 7, 0), 1);
    }

    static void promise10_noPlaceWhereAPeakIs() {
        Edges.refused("sketches(7, 0, 0)", Edges::busy, x -> x.sketches(7, 0, 0), BAD);
        Edges.refused("sketches(3, 3, 0)", Edges::busy, x -> x.sketches(3, 3, 0), BAD);
    }

    static void promise10_lookIs0To63() {
        int[] wrong = {-1, 64, LEAST, MOST};
        for (int look : wrong) {
            Edges.refused("sketches(0, 0, " + look + ")", Edges::busy, x -> x.sketches(0, 0, look), BAD);
        }
        due("sketches(0, 0, 0)", fanOf(1).sketches(0, 0, 0), 1);
        due("sketches(0, 0, 63)", fanOf(1).sketches(0, 0, 63), 1);
    }

    static void promise10_theFirst8() {
        for (int many = 0; many <= 10; many++) {
            HorizonPeaks x = fanOf(many);
            due("panorama of " + many, x.panorama(0, 0, -1), many);
            due("sketches of " + many, x.sketches(0, 0, 0), Math.min(many, 8));
            due("count(3) of " + many, x.count(3), Math.min(many, 8));
        }
        HorizonPeaks ten = fanOf(10);
        ten.sketches(0, 0, 0);
        // The last two of the PANORAMA have the BEARINGS 9 and 10.
        int[] bearings = {0, 1, 2, 3, 4, 5, 6, 8};
        for (int k = 0; k < 8; k++) {
            dueNotch(ten, k, bearings[k], 12);
        }
    }

    static void promise10_bearingsFromLookOnGoRound() {
        HorizonPeaks x = Edges.told("p7 0 7;p7 2 7;");
        // BEARINGS 0 and 2.
        int[][] table = {{0, 0, 2}, {1, 63, 1}, {2, 62, 0}, {3, 61, 63}, {63, 1, 3}, {62, 2, 4}, {32, 32, 34}};
        for (int[] row : table) {
            x.sketches(0, 0, row[0]);
            dueNotch(x, 0, row[1], 12);
            dueNotch(x, 1, row[2], 12);
        }
    }

    static void promise10_theHighestStands480() {
        HorizonPeaks x = Edges.told("p1 1 40;p7 0 1;");
        due("sketches", x.sketches(0, 0, 0), 2);
        dueNotch(x, 0, 0, 1);
        dueNotch(x, 1, 8, 480);
    }

    static void promise10_hiddenPeaksHaveNoNotch() {
        HorizonPeaks x = Edges.told("p2 0 5;p4 0 10;p6 0 16;");
        due("sketches", x.sketches(0, 0, 0), 2);
        dueNotch(x, 0, 0, 30);
        dueNotch(x, 1, 0, 32);
    }

    static void promise10_noneSeen() {
        HorizonPeaks x = noted(8);
        due("sketches", x.sketches(0, 0, 0), 0);
        due("count(3)", x.count(3), 0);
        due("undo()", x.undo(), 8);
        due("count(3) undone", x.count(3), 8);
    }

    static void promise10_notchesThatWereAreGone() {
        HorizonPeaks x = Edges.full();
        due("sketches", x.sketches(0, 0, 0), 2);
        due("count(3)", x.count(3), 2);
        due("notch(2, 0)", x.notch(2, 0), BAD);
    }

    static void promise10_aSketchOfEightToEight() {
        HorizonPeaks x = fanOf(10);
        x.sketches(0, 0, 5);
        due("sketches", x.sketches(0, 0, 0), 8);
        dueNotch(x, 0, 0, 12);
    }

    // ---- promise 11

    static void promise11_none() {
        Edges.refused("undo() of a new object", HorizonPeaks::new, HorizonPeaks::undo, STATE);
        Edges.Maker allUndone = () -> {
            HorizonPeaks x = Edges.busy();
            for (int i = 0; i < 5; i++) {
                x.undo();
            }
            return x;
        };
        Edges.refused("undo() of all undone", allUndone, HorizonPeaks::undo, STATE);
    }

    static void promise11_howManyMore() {
        HorizonPeaks x = noted(3);
        due("count(6)", x.count(6), 3);
        due("undo()", x.undo(), 2);
        due("undo()", x.undo(), 1);
        due("undo()", x.undo(), 0);
        due("undo()", x.undo(), STATE);
        due("count(3)", x.count(3), 0);
    }

    static void promise11_tenAreKnown() {
        HorizonPeaks x = noted(1);
        for (int n = 1; n <= 9; n++) {
            x.mends(0, n, 0);
        }
        due("count(6)", x.count(6), 10);
        for (int left = 9; left >= 0; left--) {
            due("undo()", x.undo(), left);
        }
        due("count(3)", x.count(3), 0);
        due("undo()", x.undo(), STATE);
    }

    static void promise11_theEleventhIsLost() {
        HorizonPeaks x = noted(1);
        for (int n = 1; n <= 10; n++) {
            x.mends(0, n, 0);
        }
        due("count(6)", x.count(6), 10);
        for (int left = 9; left >= 0; left--) {
            due("undo()", x.undo(), left);
            dueNotch(x, 0, left, 0);
        }
        due("undo()", x.undo(), STATE);
        due("count(3), as the first is not undone", x.count(3), 1);
    }

    static void promise11_olderOnesAreLostAgainAndAgain() {
        HorizonPeaks x = noted(1);
        for (int n = 1; n <= 47; n++) {
            x.mends(0, n, 0);
        }
        for (int left = 9; left >= 0; left--) {
            due("undo()", x.undo(), left);
            dueNotch(x, 0, 37 + left, 0);
        }
        due("undo()", x.undo(), STATE);
    }

    static void promise11_doneBehindUndone() {
        HorizonPeaks x = noted(1);
        for (int n = 1; n <= 15; n++) {
            x.mends(0, n, 0);
        }
        x.undo();
        x.undo();
        x.undo();
        due("count(6)", x.count(6), 7);
        for (int n = 31; n <= 33; n++) {
            x.mends(0, n, 0);
        }
        due("count(6)", x.count(6), 10);
        int[] was = {32, 31, 12, 11, 10, 9, 8, 7, 6, 5};
        for (int i = 0; i < 10; i++) {
            due("undo()", x.undo(), 9 - i);
            dueNotch(x, 0, was[i], 0);
        }
    }

    static void promise11_eachOfTheFourIsUndone() {
        HorizonPeaks x = fanOf(2);
        x.notes(5, 50);
        x.notes(6, 60);
        x.mends(0, 7, 70);
        x.erases(0);
        x.sketches(0, 0, 0);
        due("undo() of sketches", x.undo(), 4);
        dueNotch(x, 0, 6, 60);
        due("count(3)", x.count(3), 1);
        due("undo() of erases", x.undo(), 3);
        dueNotch(x, 0, 7, 70);
        dueNotch(x, 1, 6, 60);
        due("undo() of mends", x.undo(), 2);
        dueNotch(x, 0, 5, 50);
        due("undo() of notes", x.undo(), 1);
        due("count(3)", x.count(3), 1);
        dueNotch(x, 0, 5, 50);
    }

    static void promise11_refusedOnesAreNotCounted() {
        HorizonPeaks x = noted(8);
        int refused = x.notes(1, 1) + x.notes(64, 1) + x.erases(8) + x.mends(8, 1, 1) + x.mends(1, 1, 10)
                + x.sketches(8, 0, 0);
        due("refused", refused, FULL + BAD + BAD + BAD + STATE + BAD);
        due("count(6)", x.count(6), 8);
        due("undo()", x.undo(), 7);
        due("count(3)", x.count(3), 7);
    }

    static void promise11_aSketchThatChangesNothingIsUndone() {
        HorizonPeaks x = fanOf(2);
        x.sketches(0, 0, 0);
        x.sketches(0, 0, 0);
        due("count(6)", x.count(6), 2);
        due("undo()", x.undo(), 1);
        due("count(3)", x.count(3), 2);
        due("undo()", x.undo(), 0);
        due("count(3)", x.count(3), 0);
        HorizonPeaks bare = new HorizonPeaks();
        bare.sketches(0, 0, 0);
        due("undo() of a sketch of nothing", bare.undo(), 0);
    }

    static void promise11_nothingElseIsUndone() {
        HorizonPeaks x = Edges.busy();
        x.keep(0);
        x.clouds(0, 0, 0, 1);
        x.type('9');
        due("undo()", x.undo(), 4);
        dueNotch(x, 1, 3, 30);
        int[] want = {3, 2, 2, 2, 3, 9, 4};
        for (int what = 0; what < want.length; what++) {
            due("count(" + what + ")", x.count(what), want[what]);
        }
        due("back(0) as it was kept", x.back(0), 2);
        dueNotch(x, 1, 1, 12);
    }

    // ---- promise 16

    static void promise16_notchOfThoseThereAre() {
        int[] wrong = {-1, 2, 8, LEAST, MOST};
        for (int k : wrong) {
            Edges.refused("notch(" + k + ", 0)", Edges::busy, x -> x.notch(k, 0), BAD);
            Edges.refused("notch(" + k + ", 1)", Edges::busy, x -> x.notch(k, 1), BAD);
        }
        Edges.refused("notch(0, 0) of none", HorizonPeaks::new, x -> x.notch(0, 0), BAD);
        Edges.refused("notch(8, 0) of eight", Edges::full, x -> x.notch(8, 0), BAD);
        dueNotch(Edges.busy(), 0, 0, 12);
        dueNotch(Edges.busy(), 1, 1, 12);
        dueNotch(Edges.full(), 7, 7, 7);
    }

    static void promise16_what0And1() {
        int[] wrong = {-1, 2, LEAST, MOST};
        for (int what : wrong) {
            Edges.refused("notch(0, " + what + ")", Edges::busy, x -> x.notch(0, what), BAD);
        }
    }

    static void promise16_leastAndMost() {
        HorizonPeaks x = new HorizonPeaks();
        x.notes(0, 480);
        x.notes(63, 0);
        dueNotch(x, 0, 0, 480);
        dueNotch(x, 1, 63, 0);
    }
}
