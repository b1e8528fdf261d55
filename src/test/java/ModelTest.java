import java.util.ArrayList;
import java.util.HashSet;
import java.util.List;
import java.util.Random;
import java.util.Set;
import java.util.regex.Matcher;
import java.util.regex.Pattern;

/**
 * Long runs of calls, with the answers of a slow model beside them that was written by the document alone:
 * its geometry in doubles with a margin, its matching over all sets of notches, nothing kept between calls.
 */
public final class ModelTest {
    private static final int RUNS = 200;
    private static final int CALLS = 512;
    private static final Answers answers = new Answers();

    public static void main(String[] args) {
        for (int run = 0; run < RUNS && answers.wrong() == 0; run++) {
            new Run(run).go();
        }
        answers.end();
    }

    /** A run of calls on a new object, by a seed of its own. */
    private static final class Run {
        private final int seed;
        private final Random random;
        private final HorizonPeaks x = new HorizonPeaks();
        private final Model model = new Model();
        private final StringBuilder story = new StringBuilder();
        private int calls = 0;

        Run(int seed) {
            this.seed = seed;
            random = new Random(seed);
        }

        void go() {
            tellLand();
            while (calls < CALLS && answers.wrong() == 0) {
                if (random.nextInt(60) == 0) {
                    tellLand();
                } else {
                    anyCall();
                }
            }
        }

        private boolean wild() {
            return random.nextInt(25) == 0;
        }

        /** Below most, or now and then a number that is not as told. */
        private int some(int most) {
            if (wild()) {
                int[] wrong = {-1, -2, most, most + 1, Integer.MIN_VALUE, Integer.MAX_VALUE, 63, 64, 8, 7};
                return wrong[random.nextInt(wrong.length)];
            }
            return random.nextInt(Math.max(most, 1));
        }

        private void due(String call, int got, int want) {
            calls++;
            story.append(call).append(" -> ").append(got).append('\n');
            if (got != want) {
                System.out.println("run " + seed + ":\n" + story);
            }
            answers.due("run " + seed + " " + call, got, want);
        }

        private void type(String letters) {
            for (int i = 0; i < letters.length(); i++) {
                int letter = letters.charAt(i);
                due("type(" + letter + ")", x.type(letter), model.type(letter));
            }
        }

        private void tellLand() {
            String text = random.nextInt(3) == 0 ? crowdText() : landText();
            for (int i = random.nextInt(8) - 5; i > 0; i--) {
                text = spoilt(text);
            }
            // A clear() ahead, land(), and a clear() behind.
            if (calls + text.length() + 3 > CALLS) {
                return;
            }
            if (random.nextInt(3) == 0) {
                due("clear()", x.clear(), model.clear());
            }
            type(text);
            due("land()", x.land(), model.land());
            if (model.text.length() > 0 && random.nextInt(4) != 0) {
                due("clear()", x.clear(), model.clear());
            }
        }

        private String spoilt(String text) {
            int at = random.nextInt(text.length() + 1);
            String letters = "prs;0123456789 0 1 9  ;x\u0000\u00ffP";
            String letter = "" + letters.charAt(random.nextInt(letters.length()));
            switch (random.nextInt(4)) {
                case 0: return text.substring(0, at) + letter + text.substring(at);
                case 1: return at < text.length() ? text.substring(0, at) + text.substring(at + 1) : text;
                case 2: return at < text.length() ? text.substring(0, at) + letter + text.substring(at + 1) : text;
                default: return random.nextInt(3) == 0 ? text.substring(0, at) : text;
            }
        }

        private String blanks() {
            return random.nextInt(30) == 0 ? "  " : "";
        }

        private String landText() {
            StringBuilder text = new StringBuilder();
            int peaks = random.nextInt(11) + (random.nextInt(20) == 0 ? 1 : 0);
            int side = 2 + random.nextInt(7);
            int high = 1 + random.nextInt(40);
            boolean[] taken = new boolean[64];
            int told = 0;
            for (int i = 0; i < peaks; i++) {
                int px = random.nextInt(Math.min(side + 2, 8));
                int py = random.nextInt(Math.min(side, 8));
                if (taken[px * 8 + py] && random.nextInt(100) != 0) {
                    continue;
                }
                taken[px * 8 + py] = true;
                told++;
                text.append('p').append(blanks()).append(px).append(' ').append(blanks()).append(py).append(' ')
                        .append(1 + random.nextInt(high)).append(blanks()).append(';').append(blanks());
            }
            int ridges = random.nextInt(10);
            for (int i = 0; i < ridges && told > 1; i++) {
                int first = random.nextInt(told);
                int second = (first + 1 + random.nextInt(told - 1)) % told;
                text.append('r').append(blanks()).append(first).append(' ').append(second).append(blanks()).append(';');
            }
            if (random.nextInt(4) != 0) {
                text.append('s').append(random.nextInt(4)).append(';');
            }
            return text.toString();
        }

        /** PEAKS that lie close together as one looks from 0, 0, and stand alike, so that many fit many. */
        private String crowdText() {
            StringBuilder text = new StringBuilder();
            boolean[] taken = new boolean[64];
            for (int i = 6 + random.nextInt(5); i > 0; i--) {
                int px = 4 + random.nextInt(4);
                int py = random.nextInt(5);
                if (!taken[px * 8 + py]) {
                    taken[px * 8 + py] = true;
                    int high = (20 + random.nextInt(8)) * Math.max(px, py) / 12;
                    text.append('p').append(px).append(' ').append(py).append(' ').append(high).append(';');
                }
            }
            return text.append('s').append(1 + random.nextInt(3)).append(';').toString();
        }

        /** Eight NOTCHES near PEAKS as they are from 0, 0, and what is asked of them. */
        private void crowd() {
            for (int k = 0; k < 8 && !model.peaks.isEmpty(); k++) {
                int p = random.nextInt(model.peaks.size());
                int a = Math.floorMod(model.bearing(0, 0, p) + random.nextInt(5) - 2, 64);
                int b = Math.min(480, Math.max(0, model.stands(0, 0, p) + random.nextInt(5) - 2));
                if (k < model.notches.size()) {
                    due("mends(" + k + ", " + a + ", " + b + ")", x.mends(k, a, b), model.mends(k, a, b));
                } else {
                    due("notes(" + a + ", " + b + ")", x.notes(a, b), model.notes(a, b));
                }
            }
            for (int look = 62; look < 67; look++) {
                due("score(0, 0, " + look % 64 + ")", x.score(0, 0, look % 64), model.score(0, 0, look % 64));
            }
        }

        private void anyCall() {
            if (calls + 13 <= CALLS && random.nextInt(15) == 0 && model.isPlace(0, 0)) {
                crowd();
                return;
            }
            switch (random.nextInt(12)) {
                case 0: case 1: case 2: changeNotches(); break;
                case 3: changeOther(); break;
                case 4: case 5: askLand(); break;
                case 6: case 7: askView(); break;
                case 8: askAllViews(); break;
                case 9: cloud(); break;
                default: askState(); break;
            }
        }

        private int someBearing() {
            return some(64);
        }

        private int someHeight() {
            return wild() ? some(481) : random.nextInt(60);
        }

        private void changeNotches() {
            int k = some(model.notches.size());
            int a = someBearing();
            int b = someHeight();
            int px = some(8);
            int py = some(8);
            switch (random.nextInt(7)) {
                case 0: due("notes(" + a + ", " + b + ")", x.notes(a, b), model.notes(a, b)); break;
                case 1: due("erases(" + k + ")", x.erases(k), model.erases(k)); break;
                case 2: due("mends(" + k + ", " + a + ", " + b + ")", x.mends(k, a, b), model.mends(k, a, b)); break;
                case 3: nudge(k); break;
                case 4: case 5: due("sketches(" + px + ", " + py + ", " + a + ")", x.sketches(px, py, a),
                        model.sketches(px, py, a)); break;
                default: due("undo()", x.undo(), model.undo()); break;
            }
        }

        private void nudge(int k) {
            if (k < 0 || k >= model.notches.size()) {
                return;
            }
            int a = model.notches.get(k)[0] + random.nextInt(5) - 2;
            int b = model.notches.get(k)[1] + random.nextInt(5) - 2;
            due("mends(" + k + ", " + a + ", " + b + ")", x.mends(k, a, b), model.mends(k, a, b));
        }

        private void changeOther() {
            int image = some(2);
            switch (random.nextInt(5)) {
                case 0: case 1: due("keep(" + image + ")", x.keep(image), model.keep(image)); break;
                case 2: due("back(" + image + ")", x.back(image), model.back(image)); break;
                case 3: due("type(" + image + ")", x.type(image), model.type(image)); break;
                default: due("clear()", x.clear(), model.clear()); break;
            }
        }

        private void askLand() {
            int px = some(8);
            int py = some(8);
            int p = some(model.peaks.size());
            switch (random.nextInt(5)) {
                case 0: due("seen(" + px + ", " + py + ", " + p + ")", x.seen(px, py, p), model.seen(px, py, p)); break;
                case 1: due("bearing(" + px + ", " + py + ", " + p + ")", x.bearing(px, py, p),
                        model.bearing(px, py, p)); break;
                case 2: due("stands(" + px + ", " + py + ", " + p + ")", x.stands(px, py, p),
                        model.stands(px, py, p)); break;
                default:
                    int k = some(model.peaks.size() + 2) - 1;
                    due("panorama(" + px + ", " + py + ", " + k + ")", x.panorama(px, py, k),
                            model.panorama(px, py, k)); break;
            }
        }

        private void askView() {
            int px = some(8);
            int py = some(8);
            int look = some(64);
            int k = some(model.notches.size());
            int p = some(model.peaks.size());
            if (random.nextInt(2) == 0 && model.isPlace(px, py) && k >= 0 && k < model.notches.size()
                    && p >= 0 && p < model.peaks.size()) {
                // A look that brings the peak near the notch, so that some fit.
                look = Math.floorMod(model.bearing(px, py, p) - model.notches.get(k)[0] + random.nextInt(5) - 2, 64);
            }
            if (random.nextInt(2) == 0) {
                due("fits(" + px + ", " + py + ", " + look + ", " + k + ", " + p + ")", x.fits(px, py, look, k, p),
                        model.fits(px, py, look, k, p));
            } else {
                due("score(" + px + ", " + py + ", " + look + ")", x.score(px, py, look), model.score(px, py, look));
            }
        }

        private void askAllViews() {
            int what = some(4);
            int k = random.nextInt(3) == 0 ? random.nextInt(4100) : some(8);
            switch (random.nextInt(5)) {
                case 0: due("wholes()", x.wholes(), model.wholes()); break;
                case 1: due("whole(" + k + ", " + what + ")", x.whole(k, what), model.whole(k, what)); break;
                case 2: due("best(" + what + ")", x.best(what), model.best(what)); break;
                case 3: due("doubt()", x.doubt(), model.doubt()); break;
                default: due("odd()", x.odd(), model.odd()); break;
            }
        }

        private void cloud() {
            int px = some(8);
            int py = some(8);
            int look = some(64);
            int is = some(2);
            if (random.nextInt(3) == 0 && model.wholes() > 0) {
                int k = random.nextInt(model.wholes());
                px = model.whole(k, 0);
                py = model.whole(k, 1);
                look = model.whole(k, 2);
            }
            switch (random.nextInt(5)) {
                case 0: case 1: due("clouds(" + px + ", " + py + ", " + look + ", " + is + ")",
                        x.clouds(px, py, look, is), model.clouds(px, py, look, is)); break;
                case 2: if (random.nextInt(3) == 0) {
                    due("forget()", x.forget(), model.forget());
                } break;
                default: due("unseen()", x.unseen(), model.unseen()); break;
            }
        }

        private void askState() {
            int what = some(3);
            int p = some(model.peaks.size());
            int r = some(model.ridges.size());
            int k = some(model.notches.size());
            int c = some(7);
            switch (random.nextInt(4)) {
                case 0: due("peak(" + p + ", " + what + ")", x.peak(p, what), model.peak(p, what)); break;
                case 1: due("ridge(" + r + ", " + what + ")", x.ridge(r, what), model.ridge(r, what)); break;
                case 2: due("notch(" + k + ", " + what + ")", x.notch(k, what), model.notch(k, what)); break;
                default: due("count(" + c + ")", x.count(c), model.count(c)); break;
            }
        }
    }

    /** The document, word by word. */
    private static final class Model {
        private static final double MARGIN = 1e-9;

        String text = "";
        List<int[]> peaks = new ArrayList<>();
        List<int[]> ridges = new ArrayList<>();
        int slack = 1;
        List<int[]> notches = new ArrayList<>();
        private List<List<int[]>> past = new ArrayList<>();
        private List<List<int[]>> images = new ArrayList<>();
        private List<int[]> told = new ArrayList<>();

        Model() {
            images.add(null);
            images.add(null);
        }

        int type(int letter) {
            if (letter < 0 || letter > 255) {
                return -1;
            }
            if (text.length() == 140) {
                return -3;
            }
            text += (char) letter;
            return text.length();
        }

        int clear() {
            int had = text.length();
            text = "";
            return had;
        }

        int land() {
            List<int[]> newPeaks = new ArrayList<>();
            List<int[]> newRidges = new ArrayList<>();
            int newSlack = 1;
            int items = 0;
            List<Integer> starts = new ArrayList<>();
            List<String> tokens = tokens(starts);
            int at = 0;
            while (at < tokens.size()) {
                String kind = tokens.get(at);
                boolean known = kind.equals("p") && newPeaks.size() < 10 || kind.equals("r") && newRidges.size() < 8
                        || kind.equals("s");
                if (!known) {
                    return -10 - starts.get(at);
                }
                int numbers = kind.equals("p") ? 3 : kind.equals("r") ? 2 : 1;
                int[] item = new int[numbers];
                for (int i = 0; i <= numbers; i++) {
                    int next = at + 1 + i;
                    if (next >= tokens.size()) {
                        return -10 - text.length();
                    }
                    boolean may = i == numbers ? tokens.get(next).equals(";")
                            : mayBe(kind, i, tokens.get(next), item, newPeaks);
                    if (!may) {
                        return -10 - starts.get(next);
                    }
                }
                if (kind.equals("p")) {
                    newPeaks.add(item);
                } else if (kind.equals("r")) {
                    newRidges.add(item);
                } else {
                    newSlack = item[0];
                }
                items++;
                at += numbers + 2;
            }
            peaks = newPeaks;
            ridges = newRidges;
            slack = newSlack;
            text = "";
            notches = new ArrayList<>();
            past.clear();
            told.clear();
            images.set(0, null);
            images.set(1, null);
            return items;
        }

        private static boolean mayBe(String kind, int i, String token, int[] item, List<int[]> peaks) {
            if (!token.matches("0|[1-9][0-9]?")) {
                return false;
            }
            int n = Integer.parseInt(token);
            item[i] = n;
            if (kind.equals("s")) {
                return n <= 3;
            }
            if (kind.equals("r")) {
                return n < peaks.size() && (i == 0 || n != item[0]);
            }
            if (i == 2) {
                return n >= 1 && n <= 40;
            }
            if (i == 1) {
                for (int[] peak : peaks) {
                    if (peak[0] == item[0] && peak[1] == n) {
                        return false;
                    }
                }
            }
            return n <= 7;
        }

        private List<String> tokens(List<Integer> starts) {
            List<String> all = new ArrayList<>();
            Matcher matcher = Pattern.compile("[0-9]+|[^ ]", Pattern.DOTALL).matcher(text);
            while (matcher.find()) {
                all.add(matcher.group());
                starts.add(matcher.start());
            }
            return all;
        }

        int peak(int p, int what) {
            return p < 0 || p >= peaks.size() || what < 0 || what > 2 ? -1 : peaks.get(p)[what];
        }

        int ridge(int r, int what) {
            return r < 0 || r >= ridges.size() || what < 0 || what > 1 ? -1 : ridges.get(r)[what];
        }

        private boolean isNotch(int k) {
            return k >= 0 && k < notches.size();
        }

        private static boolean isMark(int bearing, int height) {
            return bearing >= 0 && bearing <= 63 && height >= 0 && height <= 480;
        }

        boolean isPlace(int x, int y) {
            if (x < 0 || x > 7 || y < 0 || y > 7) {
                return false;
            }
            for (int[] peak : peaks) {
                if (peak[0] == x && peak[1] == y) {
                    return false;
                }
            }
            return true;
        }

        private boolean isView(int x, int y, int look) {
            return isPlace(x, y) && look >= 0 && look <= 63;
        }

        private void become(List<int[]> next) {
            past.add(notches);
            if (past.size() > 10) {
                past.remove(0);
            }
            notches = next;
        }

        int notes(int bearing, int height) {
            if (!isMark(bearing, height)) {
                return -1;
            }
            if (notches.size() == 8) {
                return -3;
            }
            List<int[]> next = new ArrayList<>(notches);
            next.add(new int[] {bearing, height});
            become(next);
            return notches.size();
        }

        int erases(int k) {
            if (!isNotch(k)) {
                return -1;
            }
            List<int[]> next = new ArrayList<>(notches);
            next.remove(k);
            become(next);
            return notches.size();
        }

        int mends(int k, int bearing, int height) {
            if (!isNotch(k) || !isMark(bearing, height)) {
                return -1;
            }
            if (notches.get(k)[0] == bearing && notches.get(k)[1] == height) {
                return -2;
            }
            List<int[]> next = new ArrayList<>(notches);
            next.set(k, new int[] {bearing, height});
            become(next);
            return 1;
        }

        int sketches(int x, int y, int look) {
            if (!isView(x, y, look)) {
                return -1;
            }
            List<int[]> next = new ArrayList<>();
            for (int p : around(x, y)) {
                if (next.size() < 8) {
                    next.add(new int[] {(bearing(x, y, p) + 64 - look) % 64, stands(x, y, p)});
                }
            }
            become(next);
            return notches.size();
        }

        int undo() {
            if (past.isEmpty()) {
                return -2;
            }
            notches = past.remove(past.size() - 1);
            return past.size();
        }

        private boolean isAsked(int x, int y, int p) {
            return isPlace(x, y) && p >= 0 && p < peaks.size();
        }

        int seen(int x, int y, int p) {
            if (!isAsked(x, y, p)) {
                return -1;
            }
            return isHidden(x, y, peaks.get(p)) ? 0 : 1;
        }

        private boolean isHidden(int x, int y, int[] p) {
            double way = Math.hypot(p[0] - x, p[1] - y);
            for (int[] q : peaks) {
                double toQ = Math.hypot(q[0] - x, q[1] - y);
                double on = Math.hypot(p[0] - q[0], p[1] - q[1]);
                if (q != p && Math.abs(toQ + on - way) < MARGIN && q[2] > p[2] * toQ / way - MARGIN) {
                    return true;
                }
            }
            for (int[] r : ridges) {
                if (ridgeHides(x, y, p, peaks.get(r[0]), peaks.get(r[1]))) {
                    return true;
                }
            }
            return false;
        }

        /** The side of the line from S to p on which a point lies, as its way off the line. */
        private static double off(int x, int y, int[] p, int[] a) {
            double way = Math.hypot(p[0] - x, p[1] - y);
            return ((p[0] - x) * (a[1] - y) - (p[1] - y) * (a[0] - x)) / way;
        }

        private static boolean ridgeHides(int x, int y, int[] p, int[] a, int[] b) {
            double offA = off(x, y, p, a);
            double offB = off(x, y, p, b);
            if (Math.abs(offA) < MARGIN && Math.abs(offB) < MARGIN) {
                return false;
            }
            if (offA > MARGIN && offB > MARGIN || offA < -MARGIN && offB < -MARGIN) {
                return false;
            }
            double part = offA / (offA - offB);
            double meetX = a[0] + part * (b[0] - a[0]);
            double meetY = a[1] + part * (b[1] - a[1]);
            double way = Math.hypot(p[0] - x, p[1] - y);
            double toMeet = Math.hypot(meetX - x, meetY - y);
            double on = Math.hypot(p[0] - meetX, p[1] - meetY);
            boolean between = Math.abs(toMeet + on - way) < MARGIN && toMeet > MARGIN && on > MARGIN;
            return between && a[2] + part * (b[2] - a[2]) > p[2] * toMeet / way - MARGIN;
        }

        int bearing(int x, int y, int p) {
            if (!isAsked(x, y, p)) {
                return -1;
            }
            double dx = peaks.get(p)[0] - x;
            double dy = peaks.get(p)[1] - y;
            double is;
            if (Math.abs(dx) >= Math.abs(dy)) {
                is = 8 * dy / dx;
                if (dx < 0) {
                    is += 32;
                }
            } else {
                is = 16 - 8 * dx / dy;
                if (dy < 0) {
                    is += 32;
                }
            }
            if (is < 0) {
                is += 64;
            }
            return (int) Math.floor(is + MARGIN);
        }

        int stands(int x, int y, int p) {
            if (!isAsked(x, y, p)) {
                return -1;
            }
            int[] peak = peaks.get(p);
            return (int) Math.floor(12.0 * peak[2] / Math.max(Math.abs(peak[0] - x), Math.abs(peak[1] - y)) + MARGIN);
        }

        private List<Integer> around(int x, int y) {
            List<Integer> all = new ArrayList<>();
            for (int p = 0; p < peaks.size(); p++) {
                if (seen(x, y, p) == 1) {
                    all.add(p);
                }
            }
            all.sort((p, q) -> {
                double angle = angle(x, y, p) - angle(x, y, q);
                if (Math.abs(angle) > MARGIN) {
                    return angle < 0 ? -1 : 1;
                }
                return Double.compare(Math.hypot(peaks.get(p)[0] - x, peaks.get(p)[1] - y),
                        Math.hypot(peaks.get(q)[0] - x, peaks.get(q)[1] - y));
            });
            return all;
        }

        private double angle(int x, int y, int p) {
            double angle = Math.atan2(peaks.get(p)[1] - y, peaks.get(p)[0] - x);
            return angle < -MARGIN ? angle + 2 * Math.PI : angle;
        }

        int panorama(int x, int y, int k) {
            if (!isPlace(x, y) || k < -1) {
                return -1;
            }
            List<Integer> all = around(x, y);
            return k == -1 ? all.size() : k < all.size() ? all.get(k) : -9;
        }

        int notch(int k, int what) {
            return !isNotch(k) || what < 0 || what > 1 ? -1 : notches.get(k)[what];
        }

        int fits(int x, int y, int look, int k, int p) {
            if (!isView(x, y, look) || !isNotch(k) || !isAsked(x, y, p)) {
                return -1;
            }
            return seen(x, y, p) == 1 && isLike(notches.get(k), look, bearing(x, y, p), stands(x, y, p)) ? 1 : 0;
        }

        private boolean isLike(int[] notch, int look, int bearing, int height) {
            boolean near = false;
            for (int off = -slack; off <= slack; off++) {
                near |= (notch[0] + look + off + 64) % 64 == bearing;
            }
            return near && height >= notch[1] - slack && height <= notch[1] + slack;
        }

        /** All sets of notches (by bits) that can be explained, peak by peak; a peak and a notch may be left out. */
        private int score(int look, List<int[]> shown, int leftOut) {
            boolean[] can = new boolean[1 << notches.size()];
            can[0] = true;
            for (int[] peak : shown) {
                int like = 0;
                for (int k = 0; k < notches.size(); k++) {
                    like |= k != leftOut && isLike(notches.get(k), look, peak[0], peak[1]) ? 1 << k : 0;
                }
                for (int set = can.length - 1; set >= 0 && like != 0; set--) {
                    for (int k = 0; k < notches.size() && !can[set]; k++) {
                        can[set] = (set & like & 1 << k) != 0 && can[set & ~(1 << k)];
                    }
                }
            }
            int most = 0;
            for (int set = 0; set < can.length; set++) {
                if (can[set]) {
                    most = Math.max(most, Integer.bitCount(set));
                }
            }
            return most;
        }

        /** Of each peak that is seen, but one, its bearing and how it stands. */
        private List<int[]> shown(int x, int y, int without) {
            List<int[]> all = new ArrayList<>();
            for (int p = 0; p < peaks.size(); p++) {
                if (p != without && seen(x, y, p) == 1) {
                    int bearing = bearing(x, y, p);
                    int height = stands(x, y, p);
                    boolean any = false;
                    for (int[] notch : notches) {
                        any |= Math.abs(notch[1] - height) <= slack;
                    }
                    if (any) {
                        all.add(new int[] {bearing, height});
                    }
                }
            }
            return all;
        }

        int score(int x, int y, int look) {
            return isView(x, y, look) ? score(look, shown(x, y, -1), -1) : -1;
        }

        /** Of each view x, y, look and its score. */
        private List<int[]> views(int leftOut) {
            List<int[]> all = new ArrayList<>();
            for (int x = 0; x < 8; x++) {
                for (int y = 0; y < 8; y++) {
                    if (isPlace(x, y)) {
                        List<int[]> shown = shown(x, y, -1);
                        for (int look = 0; look < 64; look++) {
                            all.add(new int[] {x, y, look, score(look, shown, leftOut)});
                        }
                    }
                }
            }
            return all;
        }

        private List<int[]> wholeViews(int leftOut) {
            List<int[]> all = new ArrayList<>();
            for (int[] view : views(leftOut)) {
                if (view[3] == notches.size() - (leftOut >= 0 ? 1 : 0)) {
                    all.add(view);
                }
            }
            return all;
        }

        int wholes() {
            return wholeViews(-1).size();
        }

        int whole(int k, int what) {
            if (k < 0 || what < 0 || what > 2) {
                return -1;
            }
            List<int[]> all = wholeViews(-1);
            return k < all.size() ? all.get(k)[what] : -9;
        }

        private int[] bestView() {
            int[] best = null;
            for (int[] view : views(-1)) {
                if (best == null || view[3] > best[3]) {
                    best = view;
                }
            }
            return best;
        }

        int best(int what) {
            return what < 0 || what > 3 ? -1 : bestView()[what];
        }

        int doubt() {
            int most = bestView()[3];
            Set<Integer> places = new HashSet<>();
            for (int[] view : views(-1)) {
                if (view[3] == most) {
                    places.add(view[0] * 8 + view[1]);
                }
            }
            return places.size();
        }

        int odd() {
            int odd = -9;
            int most = -1;
            for (int k = 0; k < notches.size(); k++) {
                int many = wholeViews(k).size();
                if (many > most) {
                    most = many;
                    odd = k;
                }
            }
            return odd;
        }

        int clouds(int x, int y, int look, int is) {
            if (!isView(x, y, look) || is < 0 || is > 1) {
                return -1;
            }
            if (told.size() == 6) {
                return -3;
            }
            told.add(new int[] {x, y, look, is});
            return told.size();
        }

        int forget() {
            int had = told.size();
            told.clear();
            return had;
        }

        int unseen() {
            int bits = 0;
            for (int p = 0; p < peaks.size(); p++) {
                boolean so = true;
                for (int[] cloud : told) {
                    boolean whole = score(cloud[2], shown(cloud[0], cloud[1], p), -1) == notches.size();
                    so &= whole == (cloud[3] == 1);
                }
                bits += so ? 1 << p : 0;
            }
            return bits;
        }

        int keep(int image) {
            if (image < 0 || image > 1) {
                return -1;
            }
            images.set(image, notches);
            return notches.size();
        }

        int back(int image) {
            if (image < 0 || image > 1) {
                return -1;
            }
            if (images.get(image) == null) {
                return -2;
            }
            notches = images.get(image);
            past.clear();
            return notches.size();
        }

        int count(int what) {
            int[] all = {peaks.size(), ridges.size(), slack, notches.size(), told.size(), text.length(), past.size()};
            return what < 0 || what > 6 ? -1 : all[what];
        }
    }
}
