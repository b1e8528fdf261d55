/** Edges of the promises 24 to 29: which PEAK is in a CLOUD, IMAGES, and what is counted. */
final class CloudEdges {
    private static final int BAD = Edges.BAD;
    private static final int STATE = Edges.STATE;
    private static final int FULL = Edges.FULL;
    private static final int LEAST = Edges.LEAST;
    private static final int MOST = Edges.MOST;
    // From 0, 0 both stand 12, with the BEARINGS 0 and 1.
    private static final String PAIR = "p7 0 7;p7 1 7;s0;";

    private CloudEdges() {
    }

    private static void due(String call, long got, long want) {
        Edges.due(call, got, want);
    }

    private static void dueCounts(HorizonPeaks x, int... want) {
        for (int what = 0; what < want.length; what++) {
            due("count(" + what + ")", x.count(what), want[what]);
        }
    }

    private static HorizonPeaks pairNoted() {
        HorizonPeaks x = Edges.told(PAIR);
        x.notes(0, 12);
        return x;
    }

    // ---- promise 24

    static void promise24_place() {
        int[] wrong = {-1, 8, LEAST, MOST};
        for (int n : wrong) {
            Edges.refused("clouds(" + n + ", 0, 0, 0)", Edges::busy, x -> x.clouds(n, 0, 0, 0), BAD);
            Edges.refused("clouds(0, " + n + ", 0, 0)", Edges::busy, x -> x.clouds(0, n, 0, 0), BAD);
        }
        Edges.refused("clouds(7, 1, 0, 0) from a peak", Edges::busy, x -> x.clouds(7, 1, 0, 0), BAD);
        due("clouds(7, 7, 0, 0)", Edges.busy().clouds(7, 7, 0, 0), 3);
        due("clouds(0, 0, 0, 0)", Edges.busy().clouds(0, 0, 0, 0), 3);
    }

    static void promise24_lookIs0To63() {
        int[] wrong = {-1, 64, LEAST, MOST};
        for (int look : wrong) {
            Edges.refused("clouds(0, 0, " + look + ", 0)", Edges::busy, x -> x.clouds(0, 0, look, 0), BAD);
        }
        due("clouds(0, 0, 63, 0)", Edges.busy().clouds(0, 0, 63, 0), 3);
    }

    static void promise24_isIs0And1() {
        int[] wrong = {-1, 2, LEAST, MOST};
        for (int is : wrong) {
            Edges.refused("clouds(0, 0, 0, " + is + ")", Edges::busy, x -> x.clouds(0, 0, 0, is), BAD);
        }
        due("clouds(0, 0, 0, 0)", new HorizonPeaks().clouds(0, 0, 0, 0), 1);
        due("clouds(0, 0, 0, 1)", new HorizonPeaks().clouds(0, 0, 0, 1), 1);
    }

    static void promise24_sixAreTold() {
        HorizonPeaks x = Edges.told(PAIR);
        for (int n = 1; n <= 6; n++) {
            due("clouds, " + n, x.clouds(0, 0, 0, 1), n);
        }
        due("clouds, 7", x.clouds(0, 0, 0, 1), FULL);
        due("count(4)", x.count(4), 6);
    }

    static void promise24_fullIsRefused() {
        Edges.refused("clouds(0, 0, 0, 0) to six", Edges::full, x -> x.clouds(0, 0, 0, 0), FULL);
        Edges.refused("clouds(0, 0, 0, 1) to six", Edges::full, x -> x.clouds(0, 0, 0, 1), FULL);
    }

    static void promise24_badAheadOfFull() {
        Edges.refused("clouds(8, 0, 0, 0) to six", Edges::full, x -> x.clouds(8, 0, 0, 0), BAD);
        Edges.refused("clouds(0, 0, 64, 0) to six", Edges::full, x -> x.clouds(0, 0, 64, 0), BAD);
        Edges.refused("clouds(0, 0, 0, 2) to six", Edges::full, x -> x.clouds(0, 0, 0, 2), BAD);
        Edges.refused("clouds(7, 1, 0, 0) to six", Edges::full, x -> x.clouds(7, 1, 0, 0), BAD);
    }

    static void promise24_whatCantBeIsToldAllTheSame() {
        HorizonPeaks x = pairNoted();
        due("clouds", x.clouds(0, 0, 0, 1), 1);
        due("clouds, the contrary", x.clouds(0, 0, 0, 0), 2);
        due("unseen()", x.unseen(), 0);
    }

    static void promise24_nothingElseChanges() {
        HorizonPeaks x = Edges.busy();
        x.clouds(0, 0, 0, 1);
        dueCounts(x, 3, 2, 2, 2, 3, 8, 5);
    }

    static void promise24_allIsSeenAndFitsAsWithoutACloud() {
        HorizonPeaks x = pairNoted();
        int wholes = x.wholes();
        int doubt = x.doubt();
        x.clouds(0, 0, 0, 0);
        x.clouds(0, 0, 1, 1);
        due("unseen()", x.unseen(), 1);
        due("seen(0, 0, 0)", x.seen(0, 0, 0), 1);
        due("panorama(0, 0, -1)", x.panorama(0, 0, -1), 2);
        due("fits(0, 0, 0, 0, 0)", x.fits(0, 0, 0, 0, 0), 1);
        due("score(0, 0, 0)", x.score(0, 0, 0), 1);
        due("wholes()", x.wholes(), wholes);
        due("best(3)", x.best(3), 1);
        due("doubt()", x.doubt(), doubt);
        due("sketches(0, 0, 0)", x.sketches(0, 0, 0), 2);
    }

    // ---- promise 25

    static void promise25_none() {
        due("forget()", new HorizonPeaks().forget(), 0);
        Edges.Maker maker = () -> {
            HorizonPeaks x = Edges.busy();
            x.forget();
            return x;
        };
        Edges.refused("forget() again", maker, HorizonPeaks::forget, 0);
    }

    static void promise25_six() {
        HorizonPeaks x = Edges.full();
        due("forget()", x.forget(), 6);
        due("count(4)", x.count(4), 0);
        due("unseen()", x.unseen(), 7);
        due("clouds behind", x.clouds(0, 0, 0, 0), 1);
    }

    static void promise25_nothingElseChanges() {
        HorizonPeaks x = Edges.busy();
        due("forget()", x.forget(), 2);
        dueCounts(x, 3, 2, 2, 2, 0, 8, 5);
        due("back(1)", x.back(1), 3);
    }

    // ---- promise 26

    static void promise26_noPeaks() {
        HorizonPeaks x = new HorizonPeaks();
        due("nothing told", x.unseen(), 0);
        x.clouds(0, 0, 0, 1);
        due("told", x.unseen(), 0);
    }

    static void promise26_nothingTold() {
        due("one peak", Edges.told(Edges.EAST).unseen(), 1);
        due("ten peaks", Edges.told(Edges.FAN).unseen(), 1023);
        due("with notches", pairNoted().unseen(), 3);
    }

    static void promise26_theTenth() {
        HorizonPeaks x = Edges.told(Edges.FAN + "s0;");
        // Only the tenth has the BEARING 4.
        x.notes(4, 12);
        x.clouds(0, 0, 0, 0);
        due("not whole", x.unseen(), 1 << 9);
        x.forget();
        x.clouds(0, 0, 0, 1);
        due("whole", x.unseen(), 511);
    }

    static void promise26_noNotches() {
        HorizonPeaks x = Edges.told(PAIR);
        x.clouds(0, 0, 0, 1);
        due("whole, as there are none", x.unseen(), 3);
        x.clouds(0, 0, 0, 0);
        due("and not whole", x.unseen(), 0);
    }

    static void promise26_wholeOrNot() {
        HorizonPeaks x = pairNoted();
        x.clouds(0, 0, 0, 1);
        due("whole", x.unseen(), 2);
        x.forget();
        x.clouds(0, 0, 0, 0);
        due("not whole", x.unseen(), 1);
    }

    static void promise26_allThatWasTold() {
        HorizonPeaks x = pairNoted();
        // With LOOK 1 the second explains the NOTCH.
        x.clouds(0, 0, 1, 0);
        due("the second", x.unseen(), 2);
        for (int n = 2; n <= 5; n++) {
            x.clouds(0, 0, 0, 1);
            due("the second", x.unseen(), 2);
        }
        x.clouds(0, 0, 0, 0);
        due("the sixth says otherwise", x.unseen(), 0);
    }

    static void promise26_asNotchesAreNow() {
        HorizonPeaks x = pairNoted();
        x.clouds(0, 0, 0, 1);
        due("noted", x.unseen(), 2);
        x.keep(0);
        x.mends(0, 1, 12);
        due("mended", x.unseen(), 1);
        x.undo();
        due("undone", x.unseen(), 2);
        x.sketches(0, 0, 0);
        due("sketched", x.unseen(), 0);
        x.back(0);
        due("back", x.unseen(), 2);
        x.erases(0);
        due("erased", x.unseen(), 3);
    }

    static void promise26_itHidesOthersAllTheSame() {
        HorizonPeaks x = Edges.told("p2 0 10;p4 0 20;s0;");
        due("seen(0, 0, 1)", x.seen(0, 0, 1), 0);
        x.notes(0, 60);
        x.clouds(0, 0, 0, 1);
        due("whole", x.unseen(), 2);
        x.forget();
        x.clouds(0, 0, 0, 0);
        due("not whole, as the one behind stays hidden", x.unseen(), 1);
    }

    static void promise26_itsRidgeHidesOthersAllTheSame() {
        HorizonPeaks x = Edges.told("p2 0 10;p2 4 10;p4 2 20;r0 1;s0;");
        x.notes(0, 60);
        x.clouds(0, 2, 0, 1);
        due("whole", x.unseen(), 0);
    }

    static void promise26_notSeenFromAnywhere() {
        HorizonPeaks x = Edges.told("p3 3 7;s0;");
        x.notes(0, 28);
        x.clouds(0, 3, 0, 0);
        x.clouds(6, 3, 32, 0);
        due("not whole from either side", x.unseen(), 1);
        x.clouds(0, 3, 0, 1);
        due("whole", x.unseen(), 0);
    }

    static void promise26_anotherTakesItsNotch() {
        HorizonPeaks x = Edges.told("p7 0 7;p7 1 7;p7 2 7;s1;");
        x.notes(0, 12);
        x.notes(1, 12);
        x.clouds(0, 0, 0, 1);
        // Two NOTCHES and two PEAKS that are left: 1 and 2, 0 and 2, 0 and 1.
        due("whole without any one", x.unseen(), 7);
        x.notes(2, 12);
        due("three notches", x.unseen(), 0);
    }

    // ---- promise 27

    static void promise27_imageIs0And1() {
        int[] wrong = {-1, 2, LEAST, MOST};
        for (int image : wrong) {
            Edges.refused("keep(" + image + ")", Edges::busy, x -> x.keep(image), BAD);
        }
        due("keep(0)", Edges.busy().keep(0), 2);
        due("keep(1)", Edges.busy().keep(1), 2);
    }

    static void promise27_noNotches() {
        HorizonPeaks x = new HorizonPeaks();
        due("keep(0)", x.keep(0), 0);
        x.notes(1, 1);
        due("back(0)", x.back(0), 0);
        due("count(3)", x.count(3), 0);
        due("back(1)", x.back(1), STATE);
    }

    static void promise27_allEight() {
        HorizonPeaks x = Edges.full();
        due("keep(1)", x.keep(1), 8);
        x.sketches(0, 0, 0);
        due("back(1)", x.back(1), 8);
        due("notch(7, 0)", x.notch(7, 0), 7);
        due("notch(6, 0)", x.notch(6, 0), 6);
        due("notch(6, 1)", x.notch(6, 1), 50);
    }

    static void promise27_keptOverAnImage() {
        HorizonPeaks x = Edges.busy();
        x.keep(1);
        due("back(0)", x.back(0), 2);
        due("notch(1, 1)", x.notch(1, 1), 20);
        due("back(1)", x.back(1), 2);
        due("notch(1, 1)", x.notch(1, 1), 12);
    }

    static void promise27_theImageDoesNotFollow() {
        HorizonPeaks x = Edges.busy();
        x.keep(0);
        x.mends(0, 33, 333);
        x.notes(5, 5);
        x.erases(1);
        due("back(0)", x.back(0), 2);
        due("notch(0, 0)", x.notch(0, 0), 0);
        due("notch(1, 0)", x.notch(1, 0), 1);
    }

    static void promise27_nothingElseIsKept() {
        HorizonPeaks x = Edges.busy();
        due("keep(0)", x.keep(0), 2);
        dueCounts(x, 3, 2, 2, 2, 2, 8, 5);
        x.forget();
        x.clear();
        x.back(0);
        dueCounts(x, 3, 2, 2, 2, 0, 0, 0);
    }

    static void promise27_isNotUndone() {
        HorizonPeaks x = Edges.busy();
        x.keep(0);
        due("undo()", x.undo(), 4);
        due("back(0)", x.back(0), 2);
        due("notch(1, 0)", x.notch(1, 0), 1);
    }

    // ---- promise 28

    static void promise28_imageIs0And1() {
        int[] wrong = {-1, 2, LEAST, MOST};
        for (int image : wrong) {
            Edges.refused("back(" + image + ")", Edges::busy, x -> x.back(image), BAD);
            Edges.refused("back(" + image + ") of a new object", HorizonPeaks::new, x -> x.back(image), BAD);
        }
        due("back(0)", Edges.busy().back(0), 2);
        due("back(1)", Edges.busy().back(1), 3);
    }

    static void promise28_noneWasKept() {
        Edges.refused("back(0) of a new object", HorizonPeaks::new, x -> x.back(0), STATE);
        Edges.refused("back(1) of a new object", HorizonPeaks::new, x -> x.back(1), STATE);
        for (int image = 0; image <= 1; image++) {
            int kept = image;
            Edges.Maker other = () -> {
                HorizonPeaks x = pairNoted();
                x.keep(1 - kept);
                x.notes(5, 5);
                return x;
            };
            Edges.refused("back(" + image + ") where the other was kept", other, x -> x.back(kept), STATE);
        }
    }

    static void promise28_goneWithAnotherLand() {
        HorizonPeaks x = Edges.busy();
        x.clear();
        x.land();
        due("back(0)", x.back(0), STATE);
        due("back(1)", x.back(1), STATE);
        due("keep(0)", x.keep(0), 0);
        due("back(0) kept anew", x.back(0), 0);
        due("back(1)", x.back(1), STATE);
    }

    static void promise28_stayWithALandThatIsRefused() {
        HorizonPeaks x = Edges.busy();
        due("land()", x.land(), -18);
        due("back(0)", x.back(0), 2);
        due("back(1)", x.back(1), 3);
    }

    static void promise28_nothingCanBeUndoneBehind() {
        HorizonPeaks x = Edges.full();
        due("count(6)", x.count(6), 10);
        due("back(1)", x.back(1), 3);
        due("count(6)", x.count(6), 0);
        due("undo()", x.undo(), STATE);
        due("count(3)", x.count(3), 3);
        x.erases(0);
        due("undo() of what was done behind", x.undo(), 0);
        due("count(3)", x.count(3), 3);
        due("undo()", x.undo(), STATE);
    }

    static void promise28_backToWhatIs() {
        HorizonPeaks x = Edges.busy();
        x.keep(0);
        due("back(0)", x.back(0), 2);
        due("count(6), though it changed nothing", x.count(6), 0);
    }

    static void promise28_againAndAgain() {
        HorizonPeaks x = Edges.busy();
        due("back(1)", x.back(1), 3);
        due("back(0)", x.back(0), 2);
        due("back(1)", x.back(1), 3);
        due("notch(2, 1)", x.notch(2, 1), 30);
    }

    static void promise28_nothingElseChanges() {
        HorizonPeaks x = Edges.busy();
        x.back(1);
        dueCounts(x, 3, 2, 2, 3, 2, 8, 0);
        HorizonPeaks all = Edges.full();
        all.back(0);
        dueCounts(all, 3, 2, 2, 2, 6, 140, 0);
    }

    // ---- promise 29

    static void promise29_what0To6() {
        int[] wrong = {-1, 7, LEAST, MOST};
        for (int what : wrong) {
            Edges.refused("count(" + what + ")", Edges::busy, x -> x.count(what), BAD);
            Edges.refused("count(" + what + ")", HorizonPeaks::new, x -> x.count(what), BAD);
        }
        dueCounts(Edges.busy(), 3, 2, 2, 2, 2, 8, 5);
    }

    static void promise29_none() {
        dueCounts(new HorizonPeaks(), 0, 0, 1, 0, 0, 0, 0);
        dueCounts(Edges.told("s0;"), 0, 0, 0, 0, 0, 0, 0);
    }

    static void promise29_all() {
        HorizonPeaks x = Edges.typed(Edges.FULL_TEXT);
        x.land();
        Answers.type(x, Edges.FULL_TEXT);
        for (int n = 0; n < 10; n++) {
            x.notes(n, n);
            x.clouds(0, 0, n, 0);
        }
        x.mends(0, 1, 1);
        x.mends(0, 2, 1);
        x.mends(0, 3, 1);
        dueCounts(x, 10, 8, 3, 8, 6, 140, 10);
    }

    static void promise29_slackLeastAndMost() {
        for (int slack = 0; slack <= 3; slack++) {
            due("count(2)", Edges.told("s" + slack + ";").count(2), slack);
        }
    }

    static void promise29_undoneOneByOne() {
        HorizonPeaks x = new HorizonPeaks();
        for (int n = 1; n <= 12; n++) {
            x.sketches(0, 0, 0);
            due("count(6)", x.count(6), Math.min(n, 10));
        }
        for (int n = 9; n >= 0; n--) {
            x.undo();
            due("count(6)", x.count(6), n);
        }
    }
}
