/** What the tests of edges share: their answers, their lands, and a look at whether a call changed anything. */
final class Edges {
    static final int BAD = -1;
    static final int STATE = -2;
    static final int FULL = -3;
    static final int NONE = -9;
    static final int LEAST = Integer.MIN_VALUE;
    static final int MOST = Integer.MAX_VALUE;

    /** Ten PEAKS; all are SEEN from 0, 0, each in a direction of its own, and all stand 12 there. */
    static final String FAN = "p5 7 7;p7 7 7;p7 0 7;p7 1 7;p6 7 7;p7 2 7;p7 6 7;p7 3 7;p7 5 7;p7 4 7;";
    /** One PEAK that has the BEARING 0 from 0, 0, and stands 60 there. */
    static final String EAST = "p7 0 35;";

    static final String EIGHT_RIDGES = "r0 1;r2 1;r3 4;r5 6;r7 8;r9 0;r1 0;r0 1;";
    /** 140 letters without a FAULT, the last of which is needed. */
    static final String FULL_TEXT = FAN + EIGHT_RIDGES + " ".repeat(27) + "s3;";

    static final Answers answers = new Answers();
    /** The test that is running, which every answer that is not as due is told with. */
    static String test = "";

    private Edges() {
    }

    /** Makes an object as it is ahead of the call that a test is about. */
    interface Maker {
        HorizonPeaks make();
    }

    interface Call {
        int on(HorizonPeaks x);
    }

    static void due(String call, long got, long want) {
        answers.due(test + ": " + call, got, want);
    }

    static HorizonPeaks told(String text) {
        return Answers.told(text);
    }

    static HorizonPeaks typed(String text) {
        return Answers.typed(text);
    }

    /** The call answers as due, and all is behind it as it was. */
    static void refused(String call, Maker maker, Call made, int want) {
        due(call, made.on(maker.make()), want);
        unchanged(call, maker, made);
    }

    /** All is behind the call as it was, what undo(), back() and land() would bring too. */
    static void unchanged(String call, Maker maker, Call made) {
        for (int part = 0; part < PARTS; part++) {
            HorizonPeaks with = maker.make();
            made.on(with);
            answers.due(test + ": behind " + call, partOf(with, part), partOf(maker.make(), part));
        }
    }

    /** All the calls that ask, and change nothing, one by one. */
    static void unchangedBy(Maker maker, Call... asks) {
        for (int i = 0; i < asks.length; i++) {
            unchanged("call " + i, maker, asks[i]);
        }
    }

    /** Something of everything, each unlike the others. */
    static HorizonPeaks busy() {
        HorizonPeaks x = told("p7 0 7;p7 1 7;p3 3 9;r0 1;r2 0;s2;");
        x.notes(0, 12);
        x.notes(2, 20);
        x.keep(0);
        x.notes(3, 30);
        x.keep(1);
        x.erases(1);
        x.mends(1, 1, 12);
        x.clouds(0, 0, 0, 0);
        x.clouds(0, 7, 50, 0);
        Answers.type(x, "p1 1 5;s");
        return x;
    }

    /** As busy, and nothing more can be noted, told of the CLOUD, typed; ten can be UNDONE. */
    static HorizonPeaks full() {
        HorizonPeaks x = busy();
        x.clear();
        Answers.type(x, FULL_TEXT);
        // Two of each are there; a broken class must not keep a test from its end.
        for (int n = 2; n < 6; n++) {
            x.clouds(n, 0, 7, 0);
        }
        for (int n = 2; n < 8; n++) {
            x.notes(n, 50);
        }
        x.mends(7, 9, 9);
        x.mends(7, 8, 8);
        x.mends(7, 7, 7);
        return x;
    }

    private static final int PARTS = 6;

    // Each part is asked of an object of its own, since asking may change it, and 512 calls are promised.
    private static String partOf(HorizonPeaks x, int part) {
        StringBuilder all = new StringBuilder();
        switch (part) {
            case 0: appendLand(x, all); appendViews(x, all); break;
            case 1: appendPast(x, all); break;
            case 2: case 3:
                all.append(x.back(part - 2));
                appendNotches(x, all);
                break;
            case 4: appendClouds(x, all); break;
            default:
                all.append(x.land()).append(' ').append(x.clear());
                appendLand(x, all);
                break;
        }
        return all.toString();
    }

    private static void appendLand(HorizonPeaks x, StringBuilder all) {
        for (int what = 0; what < 7; what++) {
            all.append(' ').append(x.count(what));
        }
        for (int p = 0; p < x.count(0); p++) {
            all.append(" p").append(x.peak(p, 0)).append(' ').append(x.peak(p, 1)).append(' ').append(x.peak(p, 2));
        }
        for (int r = 0; r < x.count(1); r++) {
            all.append(" r").append(x.ridge(r, 0)).append(' ').append(x.ridge(r, 1));
        }
        appendNotches(x, all);
    }

    private static void appendNotches(HorizonPeaks x, StringBuilder all) {
        int notches = x.count(3);
        for (int k = 0; k < notches; k++) {
            all.append(" n").append(x.notch(k, 0)).append(' ').append(x.notch(k, 1));
        }
    }

    private static void appendViews(HorizonPeaks x, StringBuilder all) {
        all.append(" w").append(x.wholes()).append(" d").append(x.doubt()).append(" o").append(x.odd());
        for (int what = 0; what < 4; what++) {
            all.append(" b").append(x.best(what));
        }
        for (int y = 0; y < 8; y++) {
            all.append(" v").append(x.panorama(0, y, -1)).append(' ').append(x.seen(4, y, 0));
        }
        all.append(" u").append(x.unseen());
    }

    private static void appendPast(HorizonPeaks x, StringBuilder all) {
        for (int i = 0; i < 11; i++) {
            all.append(" undo").append(x.undo());
            appendNotches(x, all);
        }
    }

    // What was told of the CLOUD shows by what is UNSEEN with other NOTCHES.
    private static void appendClouds(HorizonPeaks x, StringBuilder all) {
        for (int y = 0; y < 8; y++) {
            for (int look = 0; look < 64; look += 8) {
                x.sketches(0, y, look);
                all.append(" u").append(x.unseen());
            }
        }
        all.append(" f").append(x.forget());
    }
}
