/** What the tests share: objects that are told a text, and a count of the answers that are not as due. */
final class Answers {
    private int wrong = 0;
    private int calls = 0;

    /** A new object whose text is told and read; the text has no fault. */
    static HorizonPeaks told(String text) {
        HorizonPeaks x = typed(text);
        int items = x.land();
        if (items < 0) {
            throw new IllegalStateException("the test's own text has a fault: " + text + " " + items);
        }
        return x;
    }

    static HorizonPeaks typed(String text) {
        HorizonPeaks x = new HorizonPeaks();
        type(x, text);
        return x;
    }

    static void type(HorizonPeaks x, String text) {
        for (int i = 0; i < text.length(); i++) {
            x.type(text.charAt(i));
        }
    }

    void due(String call, long got, long want) {
        calls++;
        if (got != want) {
            wrong++;
            System.out.println(call + " answered " + got + ", due is " + want);
        }
    }

    void due(String call, String got, String want) {
        calls++;
        if (!got.equals(want)) {
            wrong++;
            System.out.println(call + " answered " + got + ", due is " + want);
        }
    }

    int wrong() {
        return wrong;
    }

    void end() {
        System.out.println(wrong == 0 ? calls + " answers are as due" : wrong + " answers are not as due");
        if (wrong != 0) {
            System.exit(1);
        }
    }
}
