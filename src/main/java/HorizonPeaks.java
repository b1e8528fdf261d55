/**
 * Which mountain is it: a land of peaks and ridges told by a text, what is seen of it from a place,
 * a sketch of the horizon by its notches, and the places from which that sketch may have been made.
 * The words in capitals are those of the document.
 */
public final class HorizonPeaks {
    public static final int BAD = -1, STATE = -2, FULL = -3, NONE = -9;

    private static final int SIDE = 8;
    private static final int POINTS = SIDE * SIDE;
    private static final int TURN = 64;
    private static final int VIEWS = POINTS * TURN;
    private static final int MOST_PEAKS = 10;
    private static final int MOST_HIGH = 40;
    private static final int MOST_RIDGES = 8;
    private static final int MOST_SLACK = 3;
    private static final int FIRST_SLACK = 1;
    private static final int MOST_LETTERS = 140;
    private static final int MOST_LETTER = 255;
    private static final int MOST_NUMBER = 99;
    private static final int MOST_NOTCHES = 8;
    private static final int MOST_STANDS = 480;
    private static final int MOST_UNDONE = 10;
    private static final int MOST_CLOUDS = 6;
    private static final int IMAGES = 2;
    private static final int FAULTS_FROM = -10;

    private final Text text;
    private final Land land;
    private final Land draft;
    private final Notches notches;
    private final Past past;
    private final Views views;
    private final Clouds told;
    private final Notches[] images;
    private final boolean[] imageKept;

    public HorizonPeaks() {
        text = new Text();
        land = new Land();
        draft = new Land();
        notches = new Notches();
        past = new Past();
        views = new Views(land, notches);
        told = new Clouds();
        images = new Notches[IMAGES];
        for (int i = 0; i < IMAGES; i++) {
            images[i] = new Notches();
        }
        imageKept = new boolean[IMAGES];
    }

    // ---- what is told

    public int type(int letter) {
        if (letter < 0 || letter > MOST_LETTER) {
            return BAD;
        }
        if (text.length >= MOST_LETTERS) {
            return FULL;
        }
        text.append(letter);
        return text.length;
    }

    public int clear() {
        int had = text.length;
        text.length = 0;
        return had;
    }

    public int land() {
        int items = text.tell(draft);
        if (items < 0) {
            return items;
        }
        text.length = 0;
        land.become(draft);
        land.survey();
        notches.size = 0;
        past.size = 0;
        told.size = 0;
        for (int i = 0; i < IMAGES; i++) {
            imageKept[i] = false;
        }
        views.known = false;
        return items;
    }

    public int peak(int p, int what) {
        if (!land.hasPeak(p)) {
            return BAD;
        }
        switch (what) {
            case 0: return land.xs[p];
            case 1: return land.ys[p];
            case 2: return land.highs[p];
            default: return BAD;
        }
    }

    public int ridge(int r, int what) {
        if (r < 0 || r >= land.ridges) {
            return BAD;
        }
        switch (what) {
            case 0: return land.firsts[r];
            case 1: return land.seconds[r];
            default: return BAD;
        }
    }

    // ---- what is done

    public int notes(int bearing, int stands) {
        if (!isMark(bearing, stands)) {
            return BAD;
        }
        if (notches.size >= MOST_NOTCHES) {
            return FULL;
        }
        beforeDone();
        notches.append(bearing, stands);
        return notches.size;
    }

    public int erases(int k) {
        if (!notches.has(k)) {
            return BAD;
        }
        beforeDone();
        notches.remove(k);
        return notches.size;
    }

    public int mends(int k, int bearing, int stands) {
        if (!notches.has(k) || !isMark(bearing, stands)) {
            return BAD;
        }
        if (notches.bearings[k] == bearing && notches.heights[k] == stands) {
            return STATE;
        }
        beforeDone();
        notches.bearings[k] = bearing;
        notches.heights[k] = stands;
        return 1;
    }

    public int sketches(int x, int y, int look) {
        if (!land.isPlace(x, y) || !isLook(look)) {
            return BAD;
        }
        beforeDone();
        int point = pointOf(x, y);
        int inSight = land.turnRound(point);
        notches.size = 0;
        for (int i = 0; i < inSight && i < MOST_NOTCHES; i++) {
            int p = land.order[i];
            notches.append(Math.floorMod(land.bearingFrom(point, p) - look, TURN), land.heightFrom(point, p));
        }
        return notches.size;
    }

    public int undo() {
        if (past.size == 0) {
            return STATE;
        }
        past.restore(notches);
        views.known = false;
        return past.size;
    }

    // ---- what is seen

    public int seen(int x, int y, int p) {
        if (!land.isPlace(x, y) || !land.hasPeak(p)) {
            return BAD;
        }
        return land.isInSight(pointOf(x, y), p) ? 1 : 0;
    }

    public int bearing(int x, int y, int p) {
        if (!land.isPlace(x, y) || !land.hasPeak(p)) {
            return BAD;
        }
        return land.bearingFrom(pointOf(x, y), p);
    }

    public int stands(int x, int y, int p) {
        if (!land.isPlace(x, y) || !land.hasPeak(p)) {
            return BAD;
        }
        return land.heightFrom(pointOf(x, y), p);
    }

    public int panorama(int x, int y, int k) {
        if (!land.isPlace(x, y) || k < -1) {
            return BAD;
        }
        int inSight = land.turnRound(pointOf(x, y));
        if (k == -1) {
            return inSight;
        }
        return k < inSight ? land.order[k] : NONE;
    }

    // ---- where one stands

    public int notch(int k, int what) {
        if (!notches.has(k)) {
            return BAD;
        }
        switch (what) {
            case 0: return notches.bearings[k];
            case 1: return notches.heights[k];
            default: return BAD;
        }
    }

    public int fits(int x, int y, int look, int k, int p) {
        if (!land.isPlace(x, y) || !isLook(look) || !notches.has(k) || !land.hasPeak(p)) {
            return BAD;
        }
        views.standAt(pointOf(x, y), 1 << p);
        return views.fitting(look, k) != 0 ? 1 : 0;
    }

    public int score(int x, int y, int look) {
        if (!land.isPlace(x, y) || !isLook(look)) {
            return BAD;
        }
        return views.scoreWith(pointOf(x, y), look, land.allPeaks());
    }

    public int wholes() {
        views.know();
        return views.wholeViews;
    }

    public int whole(int k, int what) {
        if (k < 0 || what < 0 || what > 2) {
            return BAD;
        }
        int view = views.wholeView(k);
        return view == NONE ? NONE : partOf(view, what);
    }

    public int best(int what) {
        if (what < 0 || what > 3) {
            return BAD;
        }
        views.know();
        if (views.bestView == NONE) {
            return NONE;
        }
        return what == 3 ? views.bestScore : partOf(views.bestView, what);
    }

    public int doubt() {
        return views.bestPlaces();
    }

    public int odd() {
        return views.oddNotch();
    }

    // ---- which peak is in a cloud

    public int clouds(int x, int y, int look, int is) {
        if (!land.isPlace(x, y) || !isLook(look) || is < 0 || is > 1) {
            return BAD;
        }
        if (told.size >= MOST_CLOUDS) {
            return FULL;
        }
        told.append(pointOf(x, y), look, is == 1);
        return told.size;
    }

    public int forget() {
        int had = told.size;
        told.size = 0;
        return had;
    }

    public int unseen() {
        int bits = 0;
        for (int p = 0; p < land.peaks; p++) {
            if (isToldSoWithout(p)) {
                bits |= 1 << p;
            }
        }
        return bits;
    }

    // ---- images

    public int keep(int image) {
        if (image < 0 || image >= IMAGES) {
            return BAD;
        }
        images[image].become(notches);
        imageKept[image] = true;
        return notches.size;
    }

    public int back(int image) {
        if (image < 0 || image >= IMAGES) {
            return BAD;
        }
        if (!imageKept[image]) {
            return STATE;
        }
        notches.become(images[image]);
        past.size = 0;
        views.known = false;
        return notches.size;
    }

    public int count(int what) {
        switch (what) {
            case 0: return land.peaks;
            case 1: return land.ridges;
            case 2: return land.slack;
            case 3: return notches.size;
            case 4: return told.size;
            case 5: return text.length;
            case 6: return past.size;
            default: return BAD;
        }
    }

    private static boolean isLook(int look) {
        return look >= 0 && look < TURN;
    }

    private static boolean isMark(int bearing, int height) {
        return isLook(bearing) && height >= 0 && height <= MOST_STANDS;
    }

    // Points count up in the order of x, then y, as VIEWS do.
    private static int pointOf(int x, int y) {
        return x * SIDE + y;
    }

    private static int partOf(int view, int what) {
        int point = view / TURN;
        switch (what) {
            case 0: return point / SIDE;
            case 1: return point % SIDE;
            default: return view % TURN;
        }
    }

    private void beforeDone() {
        past.push(notches);
        views.known = false;
    }

    private boolean isToldSoWithout(int p) {
        int others = land.allPeaks() & ~(1 << p);
        for (int i = 0; i < told.size; i++) {
            int score = views.scoreWith(told.points[i], told.looks[i], others);
            if ((score == notches.size) != told.wholes[i]) {
                return false;
            }
        }
        return true;
    }

    /** THE TEXT, and how it is read. */
    private static final class Text {
        private static final int END = -1;
        private static final int NUMBER = -2;
        private static final int WRONG = -3;

        final int[] letters = new int[MOST_LETTERS];
        int length;
        // The TOKEN that is read: its first letter's place, the place behind it, its kind (its letter,
        // if it is a letter that may stand somewhere), and what it counts.
        private int start;
        private int behind;
        private int kind;
        private int value;

        void append(int letter) {
            if (length < MOST_LETTERS) {
                letters[length] = letter;
                length++;
            }
        }

        /** How many ITEMS, all of them in the land then; or -10 less FAULT. */
        int tell(Land land) {
            land.empty();
            behind = 0;
            int items = 0;
            // An ITEM has a letter at least, so there are no more ITEMS than letters.
            while (items <= MOST_LETTERS) {
                advance();
                if (kind == END) {
                    break;
                }
                boolean read = kind == 'p' ? readsPeak(land)
                        : kind == 'r' ? readsRidge(land)
                        : kind == 's' && readsSlack(land);
                if (!read) {
                    return FAULTS_FROM - start;
                }
                items++;
            }
            return items;
        }

        // A reader that answers false leaves the TOKEN that can't stand there as the one that is read.
        private boolean readsPeak(Land land) {
            if (land.peaks >= MOST_PEAKS || !readsNumber(0, SIDE - 1)) {
                return false;
            }
            int x = value;
            if (!readsNumber(0, SIDE - 1)) {
                return false;
            }
            int y = value;
            if (!land.isPlace(x, y) || !readsNumber(1, MOST_HIGH)) {
                return false;
            }
            int high = value;
            if (!readsItemEnd()) {
                return false;
            }
            land.addPeak(x, y, high);
            return true;
        }

        private boolean readsRidge(Land land) {
            if (land.ridges >= MOST_RIDGES || !readsNumber(0, land.peaks - 1)) {
                return false;
            }
            int first = value;
            if (!readsNumber(0, land.peaks - 1)) {
                return false;
            }
            int second = value;
            if (second == first || !readsItemEnd()) {
                return false;
            }
            land.addRidge(first, second);
            return true;
        }

        private boolean readsSlack(Land land) {
            if (!readsNumber(0, MOST_SLACK)) {
                return false;
            }
            int slack = value;
            if (!readsItemEnd()) {
                return false;
            }
            land.slack = slack;
            return true;
        }

        private boolean readsNumber(int least, int most) {
            advance();
            return kind == NUMBER && value >= least && value <= most;
        }

        private boolean readsItemEnd() {
            advance();
            return kind == ';';
        }

        private void advance() {
            start = behind;
            while (start < length && letters[start] == ' ') {
                start++;
            }
            behind = start;
            if (start >= length) {
                kind = END;
                return;
            }
            int letter = letters[start];
            if (isFigure(letter)) {
                takeFigures();
                return;
            }
            behind = start + 1;
            kind = letter == 'p' || letter == 'r' || letter == 's' || letter == ';' ? letter : WRONG;
        }

        private void takeFigures() {
            value = 0;
            while (behind < length && isFigure(letters[behind])) {
                // Once it is too great it stays so, and so a long row of figures can't wrap round.
                value = Math.min(value * 10 + letters[behind] - '0', MOST_NUMBER + 1);
                behind++;
            }
            boolean zeroAhead = letters[start] == '0' && behind - start > 1;
            kind = zeroAhead || value > MOST_NUMBER ? WRONG : NUMBER;
        }

        private static boolean isFigure(int letter) {
            return letter >= '0' && letter <= '9';
        }
    }

    /** THE LAND, and what is SEEN of it. */
    private static final class Land {
        final int[] xs = new int[MOST_PEAKS];
        final int[] ys = new int[MOST_PEAKS];
        final int[] highs = new int[MOST_PEAKS];
        int peaks;
        final int[] firsts = new int[MOST_RIDGES];
        final int[] seconds = new int[MOST_RIDGES];
        int ridges;
        int slack = FIRST_SLACK;
        final boolean[] peakAt = new boolean[POINTS];
        // Bits of the PEAKS that are SEEN from each point.
        final int[] inSight = new int[POINTS];
        // The PANORAMA that was asked for last.
        final int[] order = new int[MOST_PEAKS];

        void empty() {
            peaks = 0;
            ridges = 0;
            slack = FIRST_SLACK;
            for (int point = 0; point < POINTS; point++) {
                peakAt[point] = false;
            }
        }

        void addPeak(int x, int y, int high) {
            if (peaks < MOST_PEAKS && isPlace(x, y)) {
                xs[peaks] = x;
                ys[peaks] = y;
                highs[peaks] = high;
                peakAt[pointOf(x, y)] = true;
                peaks++;
            }
        }

        void addRidge(int first, int second) {
            if (ridges < MOST_RIDGES && hasPeak(first) && hasPeak(second)) {
                firsts[ridges] = first;
                seconds[ridges] = second;
                ridges++;
            }
        }

        void become(Land other) {
            empty();
            for (int p = 0; p < other.peaks; p++) {
                addPeak(other.xs[p], other.ys[p], other.highs[p]);
            }
            for (int r = 0; r < other.ridges; r++) {
                addRidge(other.firsts[r], other.seconds[r]);
            }
            slack = other.slack;
        }

        boolean hasPeak(int p) {
            return p >= 0 && p < peaks;
        }

        boolean isPlace(int x, int y) {
            return x >= 0 && x < SIDE && y >= 0 && y < SIDE && !peakAt[pointOf(x, y)];
        }

        int allPeaks() {
            return (1 << peaks) - 1;
        }

        /** Looks from every PLACE once, as what is SEEN changes with the land alone. */
        void survey() {
            for (int point = 0; point < POINTS; point++) {
                inSight[point] = 0;
                for (int p = 0; p < peaks && !peakAt[point]; p++) {
                    if (!isHidden(point, p)) {
                        inSight[point] |= 1 << p;
                    }
                }
            }
        }

        boolean isInSight(int point, int p) {
            return (inSight[point] >> p & 1) != 0;
        }

        int rightOf(int point, int p) {
            return xs[p] - point / SIDE;
        }

        int upOf(int point, int p) {
            return ys[p] - point % SIDE;
        }

        // Serves for a way too: ways along one line are to each other as these are.
        int reach(int point, int p) {
            return Math.max(Math.abs(rightOf(point, p)), Math.abs(upOf(point, p)));
        }

        private boolean isHidden(int point, int p) {
            for (int q = 0; q < peaks; q++) {
                if (peakHides(point, p, q)) {
                    return true;
                }
            }
            for (int r = 0; r < ridges; r++) {
                if (ridgeHides(point, p, r)) {
                    return true;
                }
            }
            return false;
        }

        private boolean peakHides(int point, int p, int q) {
            int way = reach(point, p);
            int wayToQ = reach(point, q);
            return wayToQ < way && isSameDirection(point, p, q) && highs[q] * way >= highs[p] * wayToQ;
        }

        private boolean isSameDirection(int point, int p, int q) {
            int along = rightOf(point, p) * rightOf(point, q) + upOf(point, p) * upOf(point, q);
            return along > 0 && turnLeft(point, p, q) == 0;
        }

        // Above 0: q lies to the left of p's direction (by less than half a turn).
        private int turnLeft(int point, int p, int q) {
            return rightOf(point, p) * upOf(point, q) - upOf(point, p) * rightOf(point, q);
        }

        private boolean ridgeHides(int point, int p, int r) {
            int a = firsts[r];
            int b = seconds[r];
            int dx = rightOf(point, p);
            int dy = upOf(point, p);
            int ex = xs[b] - xs[a];
            int ey = ys[b] - ys[a];
            // The lines meet at way / all of the line from S to p, and at part / all of the RIDGE.
            int all = dx * ey - dy * ex;
            int way = rightOf(point, a) * ey - upOf(point, a) * ex;
            int part = rightOf(point, a) * dy - upOf(point, a) * dx;
            if (all < 0) {
                all = -all;
                way = -way;
                part = -part;
            }
            // All is 0 if the RIDGE lies along the line, or beside it: then no way is below it.
            if (way <= 0 || way >= all || part < 0 || part > all) {
                return false;
            }
            return highs[a] * all + (highs[b] - highs[a]) * part >= highs[p] * way;
        }

        int bearingFrom(int point, int p) {
            int dx = rightOf(point, p);
            int dy = upOf(point, p);
            int bearing = 0;
            if (Math.abs(dx) >= Math.abs(dy)) {
                if (dx != 0) {
                    bearing = Math.floorDiv(8 * dy, dx) + (dx < 0 ? 32 : 0);
                }
            } else if (dy != 0) {
                bearing = 16 + Math.floorDiv(-8 * dx, dy) + (dy < 0 ? 32 : 0);
            }
            return bearing < 0 ? bearing + TURN : bearing;
        }

        int heightFrom(int point, int p) {
            int way = reach(point, p);
            return way == 0 ? 0 : 12 * highs[p] / way;
        }

        /** Puts the PANORAMA into order: how many PEAKS it has. */
        int turnRound(int point) {
            int many = 0;
            for (int p = 0; p < peaks; p++) {
                if (isInSight(point, p)) {
                    int at = many;
                    while (at > 0 && isAhead(point, p, order[at - 1])) {
                        order[at] = order[at - 1];
                        at--;
                    }
                    order[at] = p;
                    many++;
                }
            }
            return many;
        }

        private boolean isAhead(int point, int p, int q) {
            boolean late = isInSecondHalf(point, p);
            if (late != isInSecondHalf(point, q)) {
                return !late;
            }
            int left = turnLeft(point, p, q);
            return left > 0 || left == 0 && reach(point, p) < reach(point, q);
        }

        private boolean isInSecondHalf(int point, int p) {
            int dy = upOf(point, p);
            return dy < 0 || dy == 0 && rightOf(point, p) < 0;
        }
    }

    /** NOTCHES: of each its BEARING, and how it STANDS. */
    private static final class Notches {
        final int[] bearings = new int[MOST_NOTCHES];
        final int[] heights = new int[MOST_NOTCHES];
        int size;

        boolean has(int k) {
            return k >= 0 && k < size;
        }

        void append(int bearing, int height) {
            if (size < MOST_NOTCHES) {
                bearings[size] = bearing;
                heights[size] = height;
                size++;
            }
        }

        void remove(int k) {
            if (has(k)) {
                size--;
                for (int i = k; i < size; i++) {
                    bearings[i] = bearings[i + 1];
                    heights[i] = heights[i + 1];
                }
            }
        }

        void become(Notches other) {
            size = other.size;
            for (int i = 0; i < size; i++) {
                bearings[i] = other.bearings[i];
                heights[i] = other.heights[i];
            }
        }
    }

    /** NOTCHES as they were ahead of what was DONE; the oldest give way to the latest. */
    private static final class Past {
        private final Notches[] ring = new Notches[MOST_UNDONE];
        private int next;
        int size;

        Past() {
            for (int i = 0; i < MOST_UNDONE; i++) {
                ring[i] = new Notches();
            }
        }

        void push(Notches now) {
            ring[next].become(now);
            next = (next + 1) % MOST_UNDONE;
            size = Math.min(size + 1, MOST_UNDONE);
        }

        void restore(Notches now) {
            if (size > 0) {
                next = (next + MOST_UNDONE - 1) % MOST_UNDONE;
                now.become(ring[next]);
                size--;
            }
        }
    }

    /** As many pairs of a NOTCH and a PEAK of its own as can be. */
    private static final class Matching {
        // Bits of the PEAKS that FIT each NOTCH.
        final int[] rows = new int[MOST_NOTCHES];
        private final int[] owners = new int[MOST_PEAKS];
        private int tried;

        int most(int notches, int without) {
            for (int p = 0; p < MOST_PEAKS; p++) {
                owners[p] = NONE;
            }
            int pairs = 0;
            for (int k = 0; k < notches && k < MOST_NOTCHES; k++) {
                tried = 0;
                if (k != without && rows[k] != 0 && findsPeak(k, 0)) {
                    pairs++;
                }
            }
            return pairs;
        }

        // Takes a PEAK that nobody has, or one whose owner finds another. Each level has tried a PEAK more.
        private boolean findsPeak(int k, int depth) {
            if (k < 0 || k >= MOST_NOTCHES || depth > MOST_PEAKS) {
                return false;
            }
            for (int p = 0; p < MOST_PEAKS; p++) {
                int bit = 1 << p;
                if ((rows[k] & ~tried & bit) != 0) {
                    tried |= bit;
                    if (owners[p] == NONE || findsPeak(owners[p], depth + 1)) {
                        owners[p] = k;
                        return true;
                    }
                }
            }
            return false;
        }
    }

    /** VIEWS and their SCORES, which are kept until NOTCHES or the land change. */
    private static final class Views {
        private static final int NO_PLACE = -1;

        private final Land land;
        private final Notches notches;
        private final Matching matching = new Matching();
        private final int[] scores = new int[VIEWS];
        boolean known;
        int wholeViews;
        int bestView;
        int bestScore;
        // From the point where one stands, for each NOTCH and PEAK: bits of the LOOKS with which it FITS.
        private final long[] looks = new long[MOST_NOTCHES * MOST_PEAKS];
        // For each NOTCH, how many VIEWS are WHOLE without it alone.
        private final int[] lacking = new int[MOST_NOTCHES];

        Views(Land land, Notches notches) {
            this.land = land;
            this.notches = notches;
        }

        /** Bits of the LOOKS with which some PEAK, of those that one looks for (bits), FITS some NOTCH. */
        long standAt(int point, int lookedFor) {
            long any = 0;
            int shown = land.inSight[point] & lookedFor;
            for (int p = 0; p < land.peaks; p++) {
                boolean isShown = (shown >> p & 1) != 0;
                int bearing = isShown ? land.bearingFrom(point, p) : 0;
                int height = isShown ? land.heightFrom(point, p) : 0;
                for (int k = 0; k < notches.size; k++) {
                    boolean alike = isShown && Math.abs(height - notches.heights[k]) <= land.slack;
                    long bits = alike ? looksAbout(bearing - notches.bearings[k]) : 0;
                    looks[k * MOST_PEAKS + p] = bits;
                    any |= bits;
                }
            }
            return any;
        }

        private long looksAbout(int look) {
            long bits = 0;
            for (int off = -land.slack; off <= land.slack; off++) {
                bits |= 1L << Math.floorMod(look + off, TURN);
            }
            return bits;
        }

        /** Bits of the PEAKS that FIT a NOTCH, from where one stands. */
        int fitting(int look, int k) {
            int bits = 0;
            for (int p = 0; p < land.peaks; p++) {
                if (isAmong(looks[k * MOST_PEAKS + p], look)) {
                    bits |= 1 << p;
                }
            }
            return bits;
        }

        private static boolean isAmong(long bits, int look) {
            return (bits >>> look & 1) != 0;
        }

        int scoreWith(int point, int look, int lookedFor) {
            return isAmong(standAt(point, lookedFor), look) ? scoreOf(look) : 0;
        }

        private int scoreOf(int look) {
            lookTo(look);
            return matching.most(notches.size, NONE);
        }

        private void lookTo(int look) {
            for (int k = 0; k < notches.size; k++) {
                matching.rows[k] = fitting(look, k);
            }
        }

        void know() {
            if (known) {
                return;
            }
            known = true;
            wholeViews = 0;
            bestView = NONE;
            bestScore = NO_PLACE;
            for (int point = 0; point < POINTS; point++) {
                boolean place = !land.peakAt[point];
                long any = place ? standAt(point, land.allPeaks()) : 0;
                for (int look = 0; look < TURN; look++) {
                    int score = place ? 0 : NO_PLACE;
                    enter(point * TURN + look, isAmong(any, look) ? scoreOf(look) : score);
                }
            }
        }

        private void enter(int view, int score) {
            scores[view] = score;
            if (score == notches.size) {
                wholeViews++;
            }
            if (score > bestScore) {
                bestView = view;
                bestScore = score;
            }
        }

        int wholeView(int k) {
            know();
            if (k >= wholeViews) {
                return NONE;
            }
            int ahead = 0;
            for (int view = 0; view < VIEWS; view++) {
                if (scores[view] == notches.size) {
                    if (ahead == k) {
                        return view;
                    }
                    ahead++;
                }
            }
            return NONE;
        }

        int bestPlaces() {
            know();
            int places = 0;
            for (int point = 0; point < POINTS; point++) {
                if (!land.peakAt[point] && isAsGoodAsBest(point)) {
                    places++;
                }
            }
            return places;
        }

        private boolean isAsGoodAsBest(int point) {
            for (int look = 0; look < TURN; look++) {
                if (scores[point * TURN + look] == bestScore) {
                    return true;
                }
            }
            return false;
        }

        int oddNotch() {
            know();
            countLacking();
            int odd = NONE;
            for (int k = 0; k < notches.size; k++) {
                if (odd == NONE || lacking[k] > lacking[odd]) {
                    odd = k;
                }
            }
            return odd;
        }

        // WHOLE VIEWS are so without any NOTCH too; of the others only those may become so that lack just one.
        private void countLacking() {
            for (int k = 0; k < notches.size; k++) {
                lacking[k] = 0;
            }
            for (int point = 0; point < POINTS; point++) {
                boolean stood = false;
                for (int look = 0; look < TURN && !land.peakAt[point]; look++) {
                    if (scores[point * TURN + look] == notches.size - 1) {
                        if (!stood) {
                            standAt(point, land.allPeaks());
                            stood = true;
                        }
                        countLackingTo(look);
                    }
                }
            }
        }

        private void countLackingTo(int look) {
            lookTo(look);
            for (int k = 0; k < notches.size; k++) {
                if (matching.most(notches.size, k) == notches.size - 1) {
                    lacking[k]++;
                }
            }
        }
    }

    /** CLOUD: of each PLACE with a LOOK that was told, whether it is WHOLE. */
    private static final class Clouds {
        final int[] points = new int[MOST_CLOUDS];
        final int[] looks = new int[MOST_CLOUDS];
        final boolean[] wholes = new boolean[MOST_CLOUDS];
        int size;

        void append(int point, int look, boolean whole) {
            if (size < MOST_CLOUDS) {
                points[size] = point;
                looks[size] = look;
                wholes[size] = whole;
                size++;
            }
        }
    }
}
