/** Edges of the promises 17 to 23: what FITS, SCORES, and the VIEWS from which one may have looked. */
final class ViewEdges {
    private static final int BAD = Edges.BAD;
    private static final int NONE = Edges.NONE;
    private static final int LEAST = Edges.LEAST;
    private static final int MOST = Edges.MOST;
    // From 0, 0 these have the BEARINGS 0 to 6, and all stand 12.
    private static final String SEVEN = "p7 0 7;p7 1 7;p7 2 7;p7 3 7;p7 4 7;p7 5 7;p7 6 7;";
    // A whole column of PEAKS.
    private static final String COLUMN = "p0 0 1;p0 1 1;p0 2 1;p0 3 1;p0 4 1;p0 5 1;p0 6 1;p0 7 1;";
    // 7 away it stands 12, and there are 15 places that are 7 away.
    private static final String CORNER = "p0 0 7;s0;";

    private ViewEdges() {
    }

    private static void due(String call, long got, long want) {
        Edges.due(call, got, want);
    }

    private static HorizonPeaks noted(String text, int... marks) {
        HorizonPeaks x = Edges.told(text);
        for (int i = 0; i + 1 < marks.length; i += 2) {
            x.notes(marks[i], marks[i + 1]);
        }
        return x;
    }

    // ---- promise 17

    static void promise17_place() {
        int[] wrong = {-1, 8, LEAST, MOST};
        for (int n : wrong) {
            Edges.refused("fits(" + n + ", 0, 0, 0, 0)", Edges::busy, x -> x.fits(n, 0, 0, 0, 0), BAD);
            Edges.refused("fits(0, " + n + ", 0, 0, 0)", Edges::busy, x -> x.fits(0, n, 0, 0, 0), BAD);
        }
        Edges.refused("fits(7, 1, 0, 0, 0) from a peak", Edges::busy, x -> x.fits(7, 1, 0, 0, 0), BAD);
        due("fits(7, 7, 0, 0, 0)", Edges.busy().fits(7, 7, 0, 0, 0), 0);
        due("fits(0, 0, 0, 0, 0)", Edges.busy().fits(0, 0, 0, 0, 0), 1);
    }

    static void promise17_lookIs0To63() {
        int[] wrong = {-1, 64, LEAST, MOST};
        for (int look : wrong) {
            Edges.refused("fits(0, 0, " + look + ", 0, 0)", Edges::busy, x -> x.fits(0, 0, look, 0, 0), BAD);
        }
        due("fits(0, 0, 63, 0, 0)", Edges.busy().fits(0, 0, 63, 0, 0), 1);
    }

    static void promise17_notchOfThoseThereAre() {
        int[] wrong = {-1, 2, 8, LEAST, MOST};
        for (int k : wrong) {
            Edges.refused("fits(0, 0, 0, " + k + ", 0)", Edges::busy, x -> x.fits(0, 0, 0, k, 0), BAD);
        }
        due("fits(0, 0, 0, 1, 0)", Edges.busy().fits(0, 0, 0, 1, 0), 1);
        due("fits without notches", Edges.told(Edges.EAST).fits(0, 0, 0, 0, 0), BAD);
        due("fits of the eighth", Edges.full().fits(0, 0, 0, 7, 0), 0);
        due("fits of the ninth", Edges.full().fits(0, 0, 0, 8, 0), BAD);
    }

    static void promise17_peakOfThoseThereAre() {
        int[] wrong = {-1, 3, 10, LEAST, MOST};
        for (int p : wrong) {
            Edges.refused("fits(0, 0, 0, 0, " + p + ")", Edges::busy, x -> x.fits(0, 0, 0, 0, p), BAD);
        }
        due("fits(0, 0, 0, 0, 2)", Edges.busy().fits(0, 0, 0, 0, 2), 0);
        due("fits without peaks", noted("", 0, 0).fits(0, 0, 0, 0, 0), BAD);
        HorizonPeaks ten = noted(Edges.FAN, 5, 12);
        due("fits of the tenth", ten.fits(0, 0, 0, 0, 9), 1);
        due("fits of the eleventh", ten.fits(0, 0, 0, 0, 10), BAD);
    }

    static void promise17_bearingsDifferBySlackAtMost() {
        for (int slack = 0; slack <= 3; slack++) {
            HorizonPeaks x = noted("p7 7 35;s" + slack + ";", 0, 60);
            // The BEARING is 8, the NOTCH's 0.
            for (int look = 0; look < 64; look++) {
                int want = Math.abs(look - 8) <= slack ? 1 : 0;
                due("fits, slack " + slack + ", look " + look, x.fits(0, 0, look, 0, 0), want);
            }
        }
    }

    static void promise17_bearingsGoRound64() {
        for (int slack = 0; slack <= 3; slack++) {
            HorizonPeaks x = noted(Edges.EAST + "s" + slack + ";", 0, 60);
            for (int bearing = 0; bearing < 64; bearing++) {
                x.mends(0, bearing, 60);
                int round = Math.min(bearing, 64 - bearing);
                due("fits, slack " + slack + ", notch " + bearing, x.fits(0, 0, 0, 0, 0), round <= slack ? 1 : 0);
                // With the look that puts it right, and half round.
                due("fits, looked right", x.fits(0, 0, (64 - bearing) % 64, 0, 0), 1);
                due("fits, half round", x.fits(0, 0, (96 - bearing) % 64, 0, 0), 0);
            }
        }
    }

    static void promise17_bearingAndLookMayPass64() {
        HorizonPeaks x = noted(Edges.EAST + "s2;", 63, 60);
        due("63 and 1", x.fits(0, 0, 1, 0, 0), 1);
        due("63 and 3", x.fits(0, 0, 3, 0, 0), 1);
        due("63 and 4", x.fits(0, 0, 4, 0, 0), 0);
        due("63 and 63", x.fits(0, 0, 63, 0, 0), 1);
        due("63 and 62", x.fits(0, 0, 62, 0, 0), 0);
        due("63 and 0", x.fits(0, 0, 0, 0, 0), 1);
    }

    static void promise17_standsDifferBySlackAtMost() {
        for (int slack = 0; slack <= 3; slack++) {
            HorizonPeaks x = noted(Edges.EAST + "s" + slack + ";", 0, 0);
            for (int stands = 50; stands <= 70; stands++) {
                x.mends(0, 0, stands);
                int want = Math.abs(stands - 60) <= slack ? 1 : 0;
                due("fits, slack " + slack + ", stands " + stands, x.fits(0, 0, 0, 0, 0), want);
            }
        }
    }

    static void promise17_standsAtItsEdges() {
        for (int slack = 0; slack <= 3; slack++) {
            HorizonPeaks low = noted("p7 0 1;s" + slack + ";", 0, 0, 0, 480);
            due("stands 1 and 0, slack " + slack, low.fits(0, 0, 0, 0, 0), slack >= 1 ? 1 : 0);
            due("stands 1 and 480, slack " + slack, low.fits(0, 0, 0, 1, 0), 0);
            HorizonPeaks high = noted("p1 0 40;s" + slack + ";", 0, 480, 0, 478, 0, 0);
            due("stands 480 and 480, slack " + slack, high.fits(0, 0, 0, 0, 0), 1);
            due("stands 480 and 478, slack " + slack, high.fits(0, 0, 0, 1, 0), slack >= 2 ? 1 : 0);
            due("stands 480 and 0, slack " + slack, high.fits(0, 0, 0, 2, 0), 0);
        }
    }

    static void promise17_bothMustBeSo() {
        HorizonPeaks x = noted(Edges.EAST + "s1;", 1, 61, 2, 61, 1, 62, 2, 62);
        due("both off by 1", x.fits(0, 0, 0, 0, 0), 1);
        due("bearing off by 2", x.fits(0, 0, 0, 1, 0), 0);
        due("stands off by 2", x.fits(0, 0, 0, 2, 0), 0);
        due("both off by 2", x.fits(0, 0, 0, 3, 0), 0);
    }

    static void promise17_hiddenFitsNot() {
        HorizonPeaks x = noted("p3 0 15;p7 0 35;", 0, 60);
        due("seen", x.seen(0, 0, 1), 0);
        due("fits, hidden", x.fits(0, 0, 0, 0, 1), 0);
        due("fits, that which hides it", x.fits(0, 0, 0, 0, 0), 1);
        HorizonPeaks seen = noted("p3 0 14;p7 0 35;", 0, 60);
        due("fits, seen", seen.fits(0, 0, 0, 0, 1), 1);
    }

    static void promise17_slackNotToldIs1() {
        HorizonPeaks x = noted(Edges.EAST, 1, 59, 2, 60);
        due("off by 1", x.fits(0, 0, 0, 0, 0), 1);
        due("off by 2", x.fits(0, 0, 0, 1, 0), 0);
    }

    // ---- promise 18

    static void promise18_place() {
        int[] wrong = {-1, 8, LEAST, MOST};
        for (int n : wrong) {
            Edges.refused("score(" + n + ", 0, 0)", Edges::busy, x -> x.score(n, 0, 0), BAD);
            Edges.refused("score(0, " + n + ", 0)", Edges::busy, x -> x.score(0, n, 0), BAD);
        }
        Edges.refused("score(7, 1, 0) from a peak", Edges::busy, x -> x.score(7, 1, 0), BAD);
        due("score(7, 7, 0)", Edges.busy().score(7, 7, 0), 0);
    }

    static void promise18_lookIs0To63() {
        int[] wrong = {-1, 64, LEAST, MOST};
        for (int look : wrong) {
            Edges.refused("score(0, 0, " + look + ")", Edges::busy, x -> x.score(0, 0, look), BAD);
        }
        due("score(0, 0, 0)", Edges.busy().score(0, 0, 0), 1);
        due("score(0, 0, 63)", Edges.busy().score(0, 0, 63), 1);
    }

    static void promise18_noNotches() {
        due("score", Edges.told(SEVEN).score(0, 0, 0), 0);
        due("score without peaks", new HorizonPeaks().score(0, 0, 0), 0);
    }

    static void promise18_noPeaks() {
        due("score", noted("", 0, 0, 0, 0).score(0, 0, 0), 0);
    }

    static void promise18_allEight() {
        HorizonPeaks x = Edges.told(Edges.FAN);
        x.sketches(0, 0, 63);
        due("score", x.score(0, 0, 63), 8);
    }

    static void promise18_eachAPeakOfItsOwn() {
        HorizonPeaks x = noted(Edges.EAST, 0, 60);
        due("one notch", x.score(0, 0, 0), 1);
        x.notes(0, 60);
        due("two notches, one peak", x.score(0, 0, 0), 1);
        HorizonPeaks two = noted("p7 0 7;p7 1 7;", 0, 12);
        due("one notch, two peaks", two.score(0, 0, 0), 1);
        HorizonPeaks eight = Edges.told(Edges.EAST);
        for (int k = 0; k < 8; k++) {
            eight.notes(0, 60);
        }
        due("eight notches, one peak", eight.score(0, 0, 0), 1);
    }

    static void promise18_asManyAsCanBe() {
        // The second has one PEAK alone that FITS, which the first would have taken.
        due("two", noted("p7 0 7;p7 1 7;s1;", 0, 12, 63, 12).score(0, 0, 0), 2);
        due("two, the other way round", noted("p7 0 7;p7 1 7;s1;", 63, 12, 0, 12).score(0, 0, 0), 2);
        due("two, told otherwise", noted("p7 1 7;p7 0 7;s1;", 1, 12, 2, 12).score(0, 0, 0), 2);
    }

    static void promise18_eachGivesWayInARow() {
        HorizonPeaks x = noted(SEVEN + "s1;", 5, 12, 4, 12, 3, 12, 2, 12, 1, 12, 0, 12);
        due("six", x.score(0, 0, 0), 6);
        x.notes(63, 12);
        due("seven, each gives way", x.score(0, 0, 0), 7);
        x.notes(63, 12);
        due("eight, and seven peaks", x.score(0, 0, 0), 7);
    }

    /** As many NOTCHES from k on as can have a PEAK that none ahead has, by all that FITS. */
    private static int mostOf(boolean[][] fits, int k, int taken) {
        if (k == fits.length) {
            return 0;
        }
        int most = mostOf(fits, k + 1, taken);
        for (int p = 0; p < fits[k].length; p++) {
            if (fits[k][p] && (taken >> p & 1) == 0) {
                most = Math.max(most, 1 + mostOf(fits, k + 1, taken | 1 << p));
            }
        }
        return most;
    }

    /** The SCORE of the VIEW 0, y, LOOK is as many as there can be by what FITS there. */
    private static void dueCrowd(int want, int y, int look, String text, int... marks) {
        HorizonPeaks x = noted(text, marks);
        boolean[][] fits = new boolean[x.count(3)][x.count(0)];
        for (int k = 0; k < fits.length; k++) {
            for (int p = 0; p < fits[k].length; p++) {
                fits[k][p] = x.fits(0, y, look, k, p) == 1;
            }
        }
        due("what fits in '" + text + "'", mostOf(fits, 0, 0), want);
        due("score of '" + text + "'", x.score(0, y, look), want);
    }

    static void promise18_manyFitMany() {
        dueCrowd(8, 0, 0, "p7 4 13;p6 1 11;p5 4 10;p7 3 13;p6 4 13;p4 0 9;p4 3 9;p4 1 8;s2;",
                1, 24, 5, 22, 3, 24, 2, 23, 6, 26, 0, 23, 1, 20, 62, 25);
        dueCrowd(8, 0, 0, "p7 4 13;p6 1 11;p5 4 10;p7 3 13;p6 4 13;p4 0 9;p4 3 9;p4 1 8;s2;",
                4, 25, 5, 24, 6, 22, 1, 22, 5, 25, 1, 27, 8, 23, 5, 22);
        dueCrowd(8, 0, 0, "p4 3 7;p6 3 11;p5 0 12;p7 4 14;p4 1 9;p5 2 11;p4 0 9;p7 2 15;p4 2 8;s3;",
                4, 27, 6, 25, 4, 21, 4, 27, 2, 30, 3, 25, 4, 26, 5, 19);
        dueCrowd(7, 0, 0, "p4 3 8;p5 0 11;p7 4 14;p5 2 12;p7 3 14;p4 2 9;p7 0 15;p6 0 10;p4 0 9;p6 1 10;s3;",
                2, 22, 2, 24, 6, 25, 7, 23, 5, 22, 5, 29, 3, 26, 5, 29);
        dueCrowd(8, 2, 58, "p6 1 12;p4 1 7;p6 2 11;p6 4 11;p4 4 8;p6 3 13;p7 1 15;p4 3 7;s3;",
                2, 22, 4, 21, 6, 24, 9, 23, 2, 20, 5, 25, 5, 27, 1, 23);
    }

    static void promise18_someFitNothing() {
        HorizonPeaks x = noted(SEVEN + "s0;", 0, 480, 1, 12, 30, 12, 3, 13);
        due("one of four", x.score(0, 0, 0), 1);
    }

    static void promise18_hiddenPeaksExplainNothing() {
        HorizonPeaks x = noted("p3 0 15;p7 0 35;", 0, 60, 0, 60);
        due("one is hidden", x.score(0, 0, 0), 1);
        due("both are seen", noted("p3 0 14;p7 0 35;s3;", 0, 58, 0, 60).score(0, 0, 0), 2);
    }

    // ---- promise 19

    static void promise19_noNotches() {
        due("without peaks", new HorizonPeaks().wholes(), 64 * 64);
        due("one peak", Edges.told(Edges.EAST).wholes(), 63 * 64);
        due("ten peaks", Edges.told(Edges.FAN).wholes(), 54 * 64);
    }

    static void promise19_noneIsWhole() {
        due("without peaks", noted("", 0, 0).wholes(), 0);
        due("nothing stands so", noted(CORNER, 0, 480).wholes(), 0);
        due("two notches, one peak", noted(Edges.EAST, 0, 60, 0, 60).wholes(), 0);
    }

    static void promise19_eachSlack() {
        for (int slack = 0; slack <= 3; slack++) {
            // It stands 12 from the 15 places 7 away, and 14 from the 13 places 6 away.
            int places = slack >= 2 ? 28 : 15;
            HorizonPeaks x = noted("p0 0 7;s" + slack + ";", 0, 12);
            due("slack " + slack, x.wholes(), places * (2 * slack + 1));
        }
    }

    static void promise19_asNotchesAreNow() {
        HorizonPeaks x = noted(CORNER, 0, 12);
        due("noted", x.wholes(), 15);
        x.notes(0, 12);
        due("noted again", x.wholes(), 0);
        x.undo();
        due("undone", x.wholes(), 15);
        x.keep(0);
        x.mends(0, 0, 84);
        due("mended", x.wholes(), 3);
        x.erases(0);
        due("erased", x.wholes(), 63 * 64);
        x.back(0);
        due("back", x.wholes(), 15);
        x.sketches(1, 0, 0);
        due("sketched", x.wholes(), 3);
        Answers.type(x, "p0 0 7;s1;");
        x.land();
        due("another land", x.wholes(), 63 * 64);
        x.notes(0, 12);
        due("another slack", x.wholes(), 45);
    }

    // ---- promise 20

    private static void dueWhole(HorizonPeaks x, int k, int px, int py, int look) {
        due("whole(" + k + ", 0)", x.whole(k, 0), px);
        due("whole(" + k + ", 1)", x.whole(k, 1), py);
        due("whole(" + k + ", 2)", x.whole(k, 2), look);
    }

    static void promise20_kFrom0On() {
        Edges.refused("whole(-1, 0)", Edges::busy, x -> x.whole(-1, 0), BAD);
        Edges.refused("whole(least, 0)", Edges::busy, x -> x.whole(LEAST, 0), BAD);
        dueWhole(new HorizonPeaks(), 0, 0, 0, 0);
    }

    static void promise20_what0To2() {
        int[] wrong = {-1, 3, LEAST, MOST};
        for (int what : wrong) {
            Edges.refused("whole(0, " + what + ")", HorizonPeaks::new, x -> x.whole(0, what), BAD);
            Edges.refused("whole(0, " + what + ")", Edges::full, x -> x.whole(0, what), BAD);
        }
    }

    static void promise20_badAheadOfNone() {
        HorizonPeaks x = noted(CORNER, 0, 480);
        due("whole(0, 0)", x.whole(0, 0), NONE);
        due("whole(0, 3)", x.whole(0, 3), BAD);
        due("whole(0, -1)", x.whole(0, -1), BAD);
        due("whole(-1, 0)", x.whole(-1, 0), BAD);
        due("whole(most, 3)", x.whole(MOST, 3), BAD);
    }

    static void promise20_notSoMany() {
        HorizonPeaks x = noted(CORNER, 0, 12);
        dueWhole(x, 14, 7, 7, 40);
        dueWhole(x, 15, NONE, NONE, NONE);
        dueWhole(x, MOST, NONE, NONE, NONE);
        dueWhole(new HorizonPeaks(), 4095, 7, 7, 63);
        dueWhole(new HorizonPeaks(), 4096, NONE, NONE, NONE);
        dueWhole(Edges.told(Edges.FAN), 54 * 64, NONE, NONE, NONE);
    }

    static void promise20_inTheOrderOfXThenYThenLook() {
        HorizonPeaks all = new HorizonPeaks();
        dueWhole(all, 63, 0, 0, 63);
        dueWhole(all, 64, 0, 1, 0);
        dueWhole(all, 511, 0, 7, 63);
        dueWhole(all, 512, 1, 0, 0);
        HorizonPeaks x = noted(CORNER, 0, 12);
        dueWhole(x, 0, 0, 7, 48);
        dueWhole(x, 6, 6, 7, 41);
        dueWhole(x, 7, 7, 0, 32);
        HorizonPeaks wide = noted("p0 0 7;s1;", 33, 12);
        // LOOKS round 64: from 7, 0 the BEARING is 32, so that LOOK is 62, 63 and 0.
        dueWhole(wide, 21, 7, 0, 0);
        dueWhole(wide, 22, 7, 0, 62);
        dueWhole(wide, 23, 7, 0, 63);
    }

    static void promise20_pointsOfPeaksAreLeftOut() {
        HorizonPeaks x = Edges.told(COLUMN);
        dueWhole(x, 0, 1, 0, 0);
        HorizonPeaks corners = Edges.told("p0 0 1;p7 7 1;");
        dueWhole(corners, 0, 0, 1, 0);
        dueWhole(corners, 62 * 64 - 1, 7, 6, 63);
    }

    // ---- promise 21

    private static void dueBest(HorizonPeaks x, int px, int py, int look, int score) {
        due("best(0)", x.best(0), px);
        due("best(1)", x.best(1), py);
        due("best(2)", x.best(2), look);
        due("best(3)", x.best(3), score);
    }

    static void promise21_what0To3() {
        int[] wrong = {-1, 4, LEAST, MOST};
        for (int what : wrong) {
            Edges.refused("best(" + what + ")", Edges::busy, x -> x.best(what), BAD);
            Edges.refused("best(" + what + ")", HorizonPeaks::new, x -> x.best(what), BAD);
        }
    }

    static void promise21_noNotches() {
        dueBest(new HorizonPeaks(), 0, 0, 0, 0);
        dueBest(Edges.told(CORNER), 0, 1, 0, 0);
        dueBest(Edges.told(COLUMN), 1, 0, 0, 0);
    }

    static void promise21_nothingFits() {
        dueBest(noted("", 9, 9), 0, 0, 0, 0);
        dueBest(noted(CORNER, 0, 480), 0, 1, 0, 0);
        dueBest(noted(COLUMN + "p1 0 1;", 0, 480), 1, 1, 0, 0);
    }

    static void promise21_theFirstOfSeveral() {
        dueBest(noted(CORNER, 0, 12), 0, 7, 48, 1);
        // From 0, 7 the BEARING is 48, so that LOOK is 63, 0 and 1, of which 0 is the first.
        dueBest(noted("p0 0 7;s1;", 48, 12), 0, 7, 0, 1);
        dueBest(noted("p0 0 7;s0;", 49, 12), 0, 7, 63, 1);
    }

    static void promise21_theMostThoughLater() {
        // From 0, 0 the first alone is explained, from 7, 7 all.
        HorizonPeaks x = Edges.told("p7 0 7;p0 6 9;s0;");
        x.sketches(7, 7, 13);
        dueBest(x, 7, 7, 13, 2);
        due("doubt()", x.doubt(), 1);
    }

    static void promise21_theLastView() {
        HorizonPeaks x = Edges.told("p6 7 31;p7 6 29;p5 0 40;s0;");
        x.sketches(7, 7, 63);
        dueBest(x, 7, 7, 63, 3);
    }

    static void promise21_allEight() {
        HorizonPeaks x = Edges.told(Edges.FAN + "s0;");
        x.sketches(0, 0, 5);
        dueBest(x, 0, 0, 5, 8);
    }

    static void promise21_thereIsAlwaysAPlace() {
        // Ten PEAKS leave 54 PLACES, so that NONE is never due.
        dueBest(Edges.told(COLUMN + "p1 0 1;p1 1 1;"), 1, 2, 0, 0);
    }

    // ---- promise 22

    static void promise22_noNotches() {
        due("without peaks", new HorizonPeaks().doubt(), 64);
        due("one peak", Edges.told(CORNER).doubt(), 63);
        due("ten peaks", Edges.told(Edges.FAN).doubt(), 54);
    }

    static void promise22_nothingFits() {
        due("without peaks", noted("", 9, 9).doubt(), 64);
        due("one peak", noted(CORNER, 0, 480).doubt(), 63);
    }

    static void promise22_aPlaceCountsOnce() {
        due("slack 0", noted(CORNER, 0, 12).doubt(), 15);
        due("slack 1", noted("p0 0 7;s1;", 0, 12).doubt(), 15);
        due("slack 3", noted("p0 0 7;s3;", 0, 12).doubt(), 28);
    }

    static void promise22_onePlaceAlone() {
        HorizonPeaks x = Edges.told("p7 0 7;p0 6 9;s0;");
        x.sketches(7, 7, 63);
        due("doubt()", x.doubt(), 1);
        x.sketches(0, 0, 0);
        due("doubt() from the first", x.doubt(), 1);
    }

    static void promise22_bestNeedNotBeWhole() {
        HorizonPeaks x = noted(CORNER, 0, 12, 0, 12);
        due("wholes()", x.wholes(), 0);
        due("doubt()", x.doubt(), 15);
    }

    // ---- promise 23

    static void promise23_noNotches() {
        due("without peaks", new HorizonPeaks().odd(), NONE);
        due("with peaks", Edges.told(Edges.FAN).odd(), NONE);
        HorizonPeaks x = noted(CORNER, 0, 12);
        x.erases(0);
        due("erased", x.odd(), NONE);
    }

    static void promise23_theOnlyOne() {
        due("it fits", noted(CORNER, 0, 12).odd(), 0);
        due("it fits nothing", noted(CORNER, 0, 480).odd(), 0);
        due("without peaks", noted("", 9, 9).odd(), 0);
    }

    static void promise23_ofSeveralTheLowest() {
        due("alike", noted(CORNER, 0, 12, 0, 12).odd(), 0);
        due("without peaks", noted("", 9, 9, 8, 8).odd(), 0);
        due("whole without any", noted(SEVEN + "s0;", 0, 12, 1, 12, 2, 12).odd(), 0);
        due("two that fit nothing, and one", noted(CORNER, 0, 12, 0, 480, 0, 479).odd(), 0);
        due("not the first", noted(CORNER, 5, 480, 0, 12, 0, 12).odd(), 0);
        // The second and the third are alike, and no PLACE has two PEAKS for them.
        due("the second of three", noted(SEVEN + "s0;", 0, 12, 1, 12, 1, 12).odd(), 1);
    }

    static void promise23_mostViews() {
        // 1 away there are 3 places, 7 away 15.
        due("without the first", noted(CORNER, 0, 84, 0, 12).odd(), 0);
        due("without the second", noted(CORNER, 0, 12, 0, 84).odd(), 1);
    }

    static void promise23_theLastOfEight() {
        HorizonPeaks x = Edges.told(SEVEN + "s0;");
        x.sketches(0, 0, 0);
        x.notes(40, 480);
        due("count(3)", x.count(3), 8);
        due("wholes()", x.wholes(), 0);
        due("odd()", x.odd(), 7);
    }

    static void promise23_theFirstOfEight() {
        HorizonPeaks x = noted(SEVEN + "s0;", 40, 480);
        for (int bearing = 0; bearing < 7; bearing++) {
            x.notes(bearing, 12);
        }
        due("odd()", x.odd(), 0);
    }

    static void promise23_oneViewAlone() {
        // All is explained but the last, in the first VIEW of all, and in the last.
        HorizonPeaks first = Edges.told("p7 7 40;p1 0 40;s0;");
        first.sketches(0, 0, 0);
        due("wholes()", first.wholes(), 1);
        first.notes(30, 333);
        due("odd()", first.odd(), 2);
        HorizonPeaks last = Edges.told("p0 0 40;p6 7 40;s0;");
        last.sketches(7, 7, 63);
        due("wholes()", last.wholes(), 1);
        due("whole(0, 2)", last.whole(0, 2), 63);
        last.notes(30, 333);
        due("odd()", last.odd(), 2);
    }

    static void promise23_asNotchesAreNow() {
        HorizonPeaks x = noted(CORNER, 0, 12, 0, 84);
        for (int again = 0; again < 3; again++) {
            due("odd()", x.odd(), 1);
        }
        x.mends(0, 0, 84);
        x.mends(1, 0, 12);
        for (int again = 0; again < 9; again++) {
            due("odd() of others", x.odd(), 0);
        }
        x.undo();
        x.undo();
        due("odd() undone", x.odd(), 1);
    }

    static void promise23_nothingIsChanged() {
        Edges.Maker maker = () -> noted(SEVEN, 0, 12, 40, 480, 3, 12);
        due("odd()", maker.make().odd(), 1);
        Edges.unchangedBy(maker, HorizonPeaks::odd);
    }

    // ---- what is asked changes nothing

    static void promise23_noQuestionChangesAnything() {
        Edges.Call[] asks = {
            x -> x.seen(0, 0, 0), x -> x.bearing(0, 0, 0), x -> x.stands(0, 0, 0), x -> x.panorama(0, 0, -1),
            x -> x.panorama(4, 4, 1), x -> x.notch(0, 0), x -> x.fits(0, 0, 0, 0, 0), x -> x.score(0, 0, 0),
            HorizonPeaks::wholes, x -> x.whole(0, 0), x -> x.whole(5000, 2), x -> x.best(3), HorizonPeaks::doubt,
            HorizonPeaks::odd, HorizonPeaks::unseen, x -> x.peak(0, 0), x -> x.ridge(0, 0), x -> x.count(6)};
        Edges.unchangedBy(Edges::busy, asks);
        Edges.unchangedBy(Edges::full, asks);
    }
}
