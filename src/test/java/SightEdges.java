/** Edges of the promises 12 to 15: which PEAKS are SEEN from a PLACE, where, how high, in which order. */
final class SightEdges {
    private static final int BAD = Edges.BAD;
    private static final int NONE = Edges.NONE;
    private static final int LEAST = Edges.LEAST;
    private static final int MOST = Edges.MOST;
    private static final int WAYS = 8;

    private SightEdges() {
    }

    private static void due(String call, long got, long want) {
        Edges.due(call, got, want);
    }

    /** A point of the land turned and mirrored in one of eight ways. */
    private static int[] turned(int x, int y, int way) {
        int tx = (way & 1) == 0 ? x : 7 - x;
        int ty = (way & 2) == 0 ? y : 7 - y;
        return (way & 4) == 0 ? new int[] {tx, ty} : new int[] {ty, tx};
    }

    private static String turned(String text, int way) {
        StringBuilder all = new StringBuilder();
        for (String item : text.split(";")) {
            if (item.startsWith("p")) {
                String[] numbers = item.substring(1).split(" ");
                int[] at = turned(Integer.parseInt(numbers[0]), Integer.parseInt(numbers[1]), way);
                all.append('p').append(at[0]).append(' ').append(at[1]).append(' ').append(numbers[2]);
            } else {
                all.append(item);
            }
            all.append(';');
        }
        return all.toString();
    }

    /** Whether p is SEEN from x, y, and so in the land turned and mirrored. */
    private static void dueSeen(String text, int x, int y, int p, int want) {
        for (int way = 0; way < WAYS; way++) {
            String land = turned(text, way);
            int[] at = turned(x, y, way);
            due("seen(" + at[0] + ", " + at[1] + ", " + p + ") of '" + land + "'",
                    Edges.told(land).seen(at[0], at[1], p), want);
        }
    }

    private static int asked(HorizonPeaks o, int promise, int x, int y, int p) {
        switch (promise) {
            case 12: return o.seen(x, y, p);
            case 13: return o.bearing(x, y, p);
            default: return o.stands(x, y, p);
        }
    }

    /** The numbers of a call that asks of a PEAK from a PLACE. */
    private static void dueArguments(int promise) {
        int[] wrong = {-1, 8, LEAST, MOST};
        for (int n : wrong) {
            Edges.refused("at x = " + n, Edges::busy, o -> asked(o, promise, n, 0, 0), BAD);
            Edges.refused("at y = " + n, Edges::busy, o -> asked(o, promise, 0, n, 0), BAD);
        }
        int[] noPeaks = {-1, 3, 10, LEAST, MOST};
        for (int p : noPeaks) {
            Edges.refused("of peak " + p, Edges::busy, o -> asked(o, promise, 0, 0, p), BAD);
        }
        Edges.refused("from a peak", Edges::busy, o -> asked(o, promise, 7, 1, 0), BAD);
        Edges.refused("from the peak itself", Edges::busy, o -> asked(o, promise, 7, 0, 0), BAD);
        Edges.refused("without peaks", HorizonPeaks::new, o -> asked(o, promise, 0, 0, 0), BAD);
        int[] corners = {0, 7};
        for (int x : corners) {
            for (int y : corners) {
                HorizonPeaks o = Edges.told("p3 3 9;p4 4 9;");
                due("from a corner", asked(o, promise, x, y, 0) >= 0 ? 1 : 0, 1);
                due("the last peak from a corner", asked(o, promise, x, y, 1) >= 0 ? 1 : 0, 1);
                due("one peak too many from a corner", asked(o, promise, x, y, 2), BAD);
            }
        }
    }

    // ---- promise 12: PEAKS

    static void promise12_arguments() {
        dueArguments(12);
    }

    static void promise12_peakBetweenJustAsHigh() {
        dueSeen("p2 0 5;p4 0 10;", 0, 0, 1, 0);
        dueSeen("p2 0 4;p4 0 10;", 0, 0, 1, 1);
        dueSeen("p2 0 6;p4 0 10;", 0, 0, 1, 0);
        dueSeen("p1 0 3;p3 0 9;", 0, 0, 1, 0);
        dueSeen("p1 0 2;p3 0 9;", 0, 0, 1, 1);
        dueSeen("p1 0 1;p7 0 7;", 0, 0, 1, 0);
        dueSeen("p1 0 1;p7 0 8;", 0, 0, 1, 1);
    }

    static void promise12_peakBetweenByParts() {
        // 10 by 3 is 3 and a third; 40 times 6 by 7 is 34 and two sevenths.
        dueSeen("p1 0 4;p3 0 10;", 0, 0, 1, 0);
        dueSeen("p1 0 3;p3 0 10;", 0, 0, 1, 1);
        dueSeen("p6 0 35;p7 0 40;", 0, 0, 1, 0);
        dueSeen("p6 0 34;p7 0 40;", 0, 0, 1, 1);
    }

    static void promise12_peakBetweenOnASlant() {
        dueSeen("p2 1 5;p4 2 10;", 0, 0, 1, 0);
        dueSeen("p2 1 4;p4 2 10;", 0, 0, 1, 1);
        dueSeen("p2 1 3;p6 3 9;", 0, 0, 1, 0);
        dueSeen("p2 1 2;p6 3 9;", 0, 0, 1, 1);
        dueSeen("p1 1 1;p7 7 7;", 0, 0, 1, 0);
        dueSeen("p1 1 1;p7 7 8;", 0, 0, 1, 1);
    }

    static void promise12_peakBesideTheLine() {
        dueSeen("p2 1 40;p4 0 1;", 0, 0, 1, 1);
        dueSeen("p3 1 40;p7 2 1;", 0, 0, 1, 1);
        dueSeen("p4 1 40;p7 2 1;", 0, 0, 1, 1);
        dueSeen("p6 5 40;p7 6 1;", 0, 0, 1, 1);
    }

    static void promise12_peakBehindS() {
        dueSeen("p0 0 40;p4 0 1;", 2, 0, 1, 1);
        dueSeen("p1 0 40;p4 0 1;", 2, 0, 1, 1);
        dueSeen("p1 1 40;p4 4 1;", 2, 2, 1, 1);
    }

    static void promise12_peakBeyondP() {
        dueSeen("p5 0 40;p4 0 1;", 2, 0, 1, 1);
        dueSeen("p4 4 40;p3 3 1;", 0, 0, 1, 1);
    }

    static void promise12_orderToldDoesNotMatter() {
        dueSeen("p4 0 10;p2 0 5;", 0, 0, 0, 0);
        dueSeen("p4 0 10;p2 0 5;", 0, 0, 1, 1);
    }

    static void promise12_oneOfSeveralBetweenHides() {
        dueSeen("p7 0 3;p3 0 1;p5 0 2;", 0, 0, 0, 1);
        dueSeen("p7 0 3;p3 0 1;p5 0 3;", 0, 0, 0, 0);
        dueSeen("p7 0 3;p3 0 2;p5 0 2;", 0, 0, 0, 0);
    }

    static void promise12_nextToSAndFarthest() {
        dueSeen("p1 0 1;", 0, 0, 0, 1);
        dueSeen("p1 1 40;", 0, 0, 0, 1);
        dueSeen("p7 7 1;", 0, 0, 0, 1);
    }

    // ---- promise 12: RIDGES

    static void promise12_ridgeJustAsHigh() {
        dueSeen("p2 0 5;p2 4 5;p4 2 10;r0 1;", 0, 2, 2, 0);
        dueSeen("p2 0 5;p2 4 5;p4 2 11;r0 1;", 0, 2, 2, 1);
        dueSeen("p2 0 5;p2 4 5;p4 2 9;r0 1;", 0, 2, 2, 0);
        dueSeen("p2 0 5;p2 4 5;p4 2 10;", 0, 2, 2, 1);
    }

    static void promise12_ridgeHeightGoesEvenly() {
        // 14 where it is met, a third of the way from 1 to 40.
        dueSeen("p2 0 1;p2 3 40;p4 1 28;r0 1;", 0, 1, 2, 0);
        dueSeen("p2 0 1;p2 3 40;p4 1 29;r0 1;", 0, 1, 2, 1);
        dueSeen("p2 0 1;p2 3 40;p4 1 28;r1 0;", 0, 1, 2, 0);
        dueSeen("p2 0 1;p2 3 40;p4 1 29;r1 0;", 0, 1, 2, 1);
        dueSeen("p2 0 40;p2 3 1;p4 1 40;r0 1;", 0, 1, 2, 0);
    }

    static void promise12_ridgeByParts() {
        // 4 by 3 high where two fifths of the way are done.
        dueSeen("p2 0 1;p2 3 2;p5 1 3;r0 1;", 0, 1, 2, 0);
        dueSeen("p2 0 1;p2 3 2;p5 1 4;r0 1;", 0, 1, 2, 1);
        // Met at 3, 3 by 7.
        dueSeen("p3 0 3;p3 1 10;p7 1 14;r0 1;", 0, 0, 2, 0);
        dueSeen("p3 0 3;p3 1 10;p7 1 15;r0 1;", 0, 0, 2, 1);
        // Met at 1 and a half, a half.
        dueSeen("p1 1 4;p2 0 6;p3 1 10;r0 1;", 0, 0, 2, 0);
        dueSeen("p1 1 4;p2 0 6;p3 1 11;r0 1;", 0, 0, 2, 1);
    }

    static void promise12_ridgeMetAtItsEnds() {
        dueSeen("p2 2 5;p2 5 1;p4 2 10;r0 1;", 0, 2, 2, 0);
        dueSeen("p2 2 5;p2 5 1;p4 2 10;r1 0;", 0, 2, 2, 0);
        dueSeen("p2 2 4;p2 5 40;p4 2 10;r0 1;", 0, 2, 2, 1);
        dueSeen("p2 2 4;p2 5 40;p4 2 10;r1 0;", 0, 2, 2, 1);
    }

    static void promise12_ridgeEndsAheadOfTheLine() {
        dueSeen("p2 3 40;p2 5 40;p4 2 1;r0 1;", 0, 2, 2, 1);
        dueSeen("p2 3 40;p2 5 40;p4 2 1;r1 0;", 0, 2, 2, 1);
        dueSeen("p2 1 40;p2 0 40;p4 2 1;r0 1;", 0, 2, 2, 1);
        dueSeen("p2 0 40;p3 1 40;p7 3 1;r0 1;", 0, 0, 2, 1);
        // The line passes its end by a seventh; a ridge to the other side would be met.
        dueSeen("p2 1 40;p2 3 40;p7 3 1;r0 1;", 0, 0, 2, 1);
        dueSeen("p2 1 40;p2 3 40;p7 3 1;r1 0;", 0, 0, 2, 1);
        dueSeen("p2 1 40;p2 0 40;p7 3 1;r0 1;", 0, 0, 2, 0);
        dueSeen("p2 1 40;p2 0 40;p7 3 1;r1 0;", 0, 0, 2, 0);
    }

    static void promise12_ridgeAlongTheLine() {
        dueSeen("p2 0 1;p6 0 40;p4 0 30;r0 1;", 0, 0, 2, 1);
        dueSeen("p2 0 1;p6 0 40;p4 0 30;r1 0;", 0, 0, 2, 1);
        dueSeen("p2 1 1;p6 3 40;p4 2 30;r0 1;", 0, 0, 2, 1);
        dueSeen("p1 1 1;p7 7 40;p6 6 39;r0 1;", 0, 0, 2, 1);
        // P is its end.
        dueSeen("p2 0 1;p4 0 30;r0 1;", 0, 0, 1, 1);
        // S lies in it.
        dueSeen("p0 0 40;p6 0 40;p4 0 30;r0 1;", 2, 0, 2, 1);
        dueSeen("p0 0 40;p4 0 30;r0 1;", 2, 0, 1, 1);
    }

    static void promise12_peaksAtTheEndsOfARidgeAlongTheLine() {
        dueSeen("p2 0 1;p4 0 20;p6 0 30;r0 1;", 0, 0, 2, 0);
        dueSeen("p2 0 1;p4 0 19;p6 0 30;r0 1;", 0, 0, 2, 1);
    }

    static void promise12_ridgeBesideTheLine() {
        dueSeen("p1 3 40;p3 3 40;p4 2 1;r0 1;", 0, 2, 2, 1);
        dueSeen("p1 2 40;p3 4 40;p4 4 1;r0 1;", 0, 0, 2, 1);
    }

    static void promise12_ridgeMetAtS() {
        dueSeen("p0 0 40;p0 4 40;p4 2 1;r0 1;", 0, 2, 2, 1);
        dueSeen("p0 0 40;p4 4 40;p4 0 1;r0 1;", 2, 2, 2, 1);
        dueSeen("p0 0 40;p4 2 40;p4 0 1;r0 1;", 2, 1, 2, 1);
    }

    static void promise12_ridgeMetAtP() {
        dueSeen("p4 0 40;p4 4 40;p4 2 1;r0 1;", 0, 2, 2, 1);
        dueSeen("p4 2 1;p4 7 40;r0 1;", 0, 2, 0, 1);
        dueSeen("p4 2 1;p4 7 40;r1 0;", 0, 2, 0, 1);
        dueSeen("p4 2 1;p1 7 40;r0 1;", 0, 2, 0, 1);
    }

    static void promise12_ridgeJustNearerThanP() {
        dueSeen("p6 0 6;p6 4 6;p7 2 7;r0 1;", 0, 2, 2, 0);
        dueSeen("p6 0 6;p6 4 6;p7 2 8;r0 1;", 0, 2, 2, 1);
        // A quarter nearer, and a quarter beyond.
        dueSeen("p7 1 40;p6 5 40;p7 2 1;r0 1;", 0, 2, 2, 0);
        dueSeen("p6 1 40;p7 5 40;p6 2 1;r0 1;", 0, 2, 2, 1);
    }

    static void promise12_ridgeBehindS() {
        dueSeen("p0 0 40;p0 4 40;p4 2 1;r0 1;", 1, 2, 2, 1);
        // A quarter behind S, and a quarter ahead.
        dueSeen("p1 1 40;p0 5 40;p4 2 1;r0 1;", 1, 2, 2, 1);
        dueSeen("p1 1 40;p2 5 40;p4 2 1;r0 1;", 1, 2, 2, 0);
    }

    static void promise12_ridgeBeyondP() {
        dueSeen("p6 0 40;p6 4 40;p4 2 1;r0 1;", 0, 2, 2, 1);
        dueSeen("p5 0 40;p5 4 40;p4 2 1;r0 1;", 0, 2, 2, 1);
    }

    static void promise12_theLastOfEightRidges() {
        String land = "p2 0 5;p2 4 5;p4 2 10;p7 7 1;" + "r0 3;r1 3;r3 0;r3 1;r0 3;r1 3;r0 3;";
        dueSeen(land, 0, 2, 2, 1);
        dueSeen(land + "r1 0;", 0, 2, 2, 0);
    }

    static void promise12_ridgeOfPIsNoReason() {
        // The ridge hides one, but not the peaks that it goes between.
        dueSeen("p2 0 5;p2 4 5;p4 2 10;r0 1;", 0, 2, 0, 1);
        dueSeen("p2 0 5;p2 4 5;p4 2 10;r0 1;", 0, 2, 1, 1);
    }

    // ---- promise 13

    static void promise13_arguments() {
        dueArguments(13);
    }

    private static int bearing(int dx, int dy) {
        int sx = dx < 0 ? 7 : 0;
        int sy = dy < 0 ? 7 : 0;
        return Edges.told("p" + (sx + dx) + " " + (sy + dy) + " 9;").bearing(sx, sy, 0);
    }

    static void promise13_straightAndSlanting() {
        int[][] table = {{1, 0, 0}, {1, 1, 8}, {0, 1, 16}, {-1, 1, 24}, {-1, 0, 32}, {-1, -1, 40}, {0, -1, 48},
            {1, -1, 56}};
        for (int[] row : table) {
            for (int far = 1; far <= 7; far++) {
                int dx = far * row[0];
                int dy = far * row[1];
                due("bearing of " + dx + ", " + dy, bearing(dx, dy), row[2]);
            }
        }
    }

    static void promise13_belowZeroGoesRound64() {
        due("bearing of 7, -1", bearing(7, -1), 62);
        due("bearing of 1, -1", bearing(1, -1), 56);
        due("bearing of 4, -1", bearing(4, -1), 62);
        due("bearing of 5, -1", bearing(5, -1), 62);
        due("bearing of 7, 1", bearing(7, 1), 1);
    }

    static void promise13_onBothSidesOfTheSlants() {
        due("bearing of 7, 6", bearing(7, 6), 6);
        due("bearing of 6, 7", bearing(6, 7), 9);
        due("bearing of -6, 7", bearing(-6, 7), 22);
        due("bearing of -7, 6", bearing(-7, 6), 25);
        due("bearing of -7, -6", bearing(-7, -6), 38);
        due("bearing of -6, -7", bearing(-6, -7), 41);
        due("bearing of 6, -7", bearing(6, -7), 54);
        due("bearing of 7, -6", bearing(7, -6), 57);
    }

    /** The whole number that is not above up by down, and less than 1 below it. */
    private static int lower(int up, int down) {
        for (int n = -1000; n <= 1000; n++) {
            if (n * down <= up && up < (n + 1) * down) {
                return n;
            }
        }
        throw new IllegalStateException(up + " by " + down);
    }

    static void promise13_lowerWholeNumberInEveryDirection() {
        for (int dx = -7; dx <= 7; dx++) {
            for (int dy = -7; dy <= 7; dy++) {
                int down = Math.max(Math.abs(dx), Math.abs(dy));
                int up = Math.abs(dx) >= Math.abs(dy) ? 8 * (dx < 0 ? -dy : dy) + (dx < 0 ? 32 * down : 0)
                        : 16 * down - 8 * (dy < 0 ? -dx : dx) + (dy < 0 ? 32 * down : 0);
                if (down > 0) {
                    int want = lower(up < 0 ? up + 64 * down : up, down);
                    due("bearing of " + dx + ", " + dy, bearing(dx, dy), want);
                }
            }
        }
    }

    static void promise13_hiddenOrNot() {
        HorizonPeaks x = Edges.told("p2 1 5;p4 2 10;");
        due("seen", x.seen(0, 0, 1), 0);
        due("bearing", x.bearing(0, 0, 1), 4);
    }

    // ---- promise 14

    static void promise14_arguments() {
        dueArguments(14);
    }

    static void promise14_leastAndMost() {
        due("stands, 1 high, 7 away", Edges.told("p7 7 1;").stands(0, 0, 0), 1);
        due("stands, 40 high, 1 away", Edges.told("p1 0 40;").stands(0, 0, 0), 480);
        due("stands, 40 high, 1 away on a slant", Edges.told("p1 1 40;").stands(0, 0, 0), 480);
    }

    static void promise14_lowerWholeNumberOfEveryHeight() {
        for (int high = 1; high <= 40; high++) {
            for (int far = 1; far <= 7; far++) {
                HorizonPeaks x = Edges.told("p" + far + " 0 " + high + ";");
                due("stands, " + high + " high, " + far + " away", x.stands(0, 0, 0), lower(12 * high, far));
            }
        }
    }

    static void promise14_theGreaterOfDxAndDy() {
        for (int way = 0; way < WAYS; way++) {
            int[] s = turned(0, 0, way);
            HorizonPeaks x = Edges.told(turned("p5 2 9;", way));
            due("stands, 5 and 2 away", x.stands(s[0], s[1], 0), 21);
            HorizonPeaks slant = Edges.told(turned("p3 3 9;", way));
            due("stands, 3 and 3 away", slant.stands(s[0], s[1], 0), 36);
        }
    }

    static void promise14_hiddenOrNot() {
        HorizonPeaks x = Edges.told("p2 1 5;p4 2 10;");
        due("seen", x.seen(0, 0, 1), 0);
        due("stands", x.stands(0, 0, 1), 30);
    }

    // ---- promise 15

    private static void duePanorama(String text, int x, int y, int... peaks) {
        HorizonPeaks o = Edges.told(text);
        due("panorama(-1) of '" + text + "'", o.panorama(x, y, -1), peaks.length);
        for (int k = 0; k < peaks.length; k++) {
            due("panorama(" + k + ") of '" + text + "'", o.panorama(x, y, k), peaks[k]);
        }
        due("panorama(" + peaks.length + ") of '" + text + "'", o.panorama(x, y, peaks.length), NONE);
    }

    static void promise15_place() {
        int[] wrong = {-1, 8, LEAST, MOST};
        for (int n : wrong) {
            Edges.refused("panorama(" + n + ", 0, 0)", Edges::busy, x -> x.panorama(n, 0, 0), BAD);
            Edges.refused("panorama(0, " + n + ", 0)", Edges::busy, x -> x.panorama(0, n, 0), BAD);
            Edges.refused("panorama(" + n + ", 0, 99)", Edges::busy, x -> x.panorama(n, 0, 99), BAD);
        }
        Edges.refused("panorama(7, 1, -1) from a peak", Edges::busy, x -> x.panorama(7, 1, -1), BAD);
        Edges.refused("panorama(7, 1, 0) from a peak", Edges::busy, x -> x.panorama(7, 1, 0), BAD);
    }

    static void promise15_kFromMinus1On() {
        Edges.refused("panorama(0, 0, -2)", Edges::busy, x -> x.panorama(0, 0, -2), BAD);
        Edges.refused("panorama(0, 0, least)", Edges::busy, x -> x.panorama(0, 0, LEAST), BAD);
        due("panorama(0, 0, -1)", Edges.busy().panorama(0, 0, -1), 2);
        due("panorama(0, 0, 0)", Edges.busy().panorama(0, 0, 0), 0);
    }

    static void promise15_notSoMany() {
        HorizonPeaks x = Edges.busy();
        due("panorama(0, 0, 1)", x.panorama(0, 0, 1), 2);
        due("panorama(0, 0, 2), as one is hidden", x.panorama(0, 0, 2), NONE);
        due("panorama(0, 0, 3)", x.panorama(0, 0, 3), NONE);
        due("panorama(0, 0, most)", x.panorama(0, 0, MOST), NONE);
    }

    static void promise15_noPeaks() {
        duePanorama("", 0, 0);
        duePanorama("", 7, 7);
    }

    static void promise15_allTenInOrder() {
        duePanorama(Edges.FAN, 0, 0, 2, 3, 5, 7, 9, 8, 6, 1, 4, 0);
    }

    static void promise15_fromTheDirection10ToTheLeft() {
        duePanorama("p6 2 9;p4 1 9;p3 0 9;p2 1 9;p0 3 9;p2 5 9;p3 6 9;p4 5 9;p6 4 9;p7 3 9;", 3, 3,
                9, 8, 7, 6, 5, 4, 3, 2, 1, 0);
    }

    static void promise15_justBelow10IsLast() {
        duePanorama("p7 2 9;p7 3 9;p7 4 9;", 0, 3, 1, 2, 0);
    }

    static void promise15_oppositeDirectionsAreTwo() {
        duePanorama("p0 3 9;p7 3 9;", 3, 3, 1, 0);
        duePanorama("p2 3 9;p7 3 9;", 3, 3, 1, 0);
        duePanorama("p2 3 9;p4 3 9;", 3, 3, 1, 0);
        duePanorama("p3 0 9;p3 7 9;", 3, 3, 1, 0);
        duePanorama("p3 2 9;p3 7 9;", 3, 3, 1, 0);
        duePanorama("p0 0 9;p7 7 9;", 3, 3, 1, 0);
    }

    static void promise15_ofOneDirectionTheNearerFirst() {
        duePanorama("p6 0 40;p4 0 10;p2 0 2;p0 3 1;", 0, 0, 2, 1, 0, 3);
        duePanorama("p2 0 2;p6 0 40;p4 0 10;", 0, 0, 0, 2, 1);
        duePanorama("p3 3 40;p5 5 10;p6 6 2;", 7, 7, 2, 1, 0);
        duePanorama("p3 1 40;p3 4 10;p3 5 2;", 3, 6, 2, 1, 0);
    }

    static void promise15_directionsOfOneBearingAreTwo() {
        HorizonPeaks x = Edges.told("p7 6 9;p6 5 9;");
        due("one bearing", x.bearing(0, 0, 0), x.bearing(0, 0, 1));
        // Once the nearer comes ahead, and once the farther.
        duePanorama("p7 6 9;p6 5 9;", 0, 0, 1, 0);
        duePanorama("p6 7 9;p5 6 9;", 0, 0, 0, 1);
    }

    static void promise15_hiddenPeaksAreNotThere() {
        duePanorama("p2 0 20;p6 0 40;p4 0 10;", 0, 0, 0);
        duePanorama("p2 0 5;p2 4 5;p4 2 10;r0 1;", 0, 2, 1, 0);
    }

    static void promise15_askedFromOnePlaceAndAnother() {
        HorizonPeaks x = Edges.told("p0 3 9;p7 3 9;p7 4 9;");
        due("panorama(3, 3, 0)", x.panorama(3, 3, 0), 1);
        due("panorama(0, 4, 0)", x.panorama(0, 4, 0), 2);
        due("panorama(3, 3, 2)", x.panorama(3, 3, 2), 0);
        due("panorama(0, 4, 1)", x.panorama(0, 4, 1), 0);
    }
}
