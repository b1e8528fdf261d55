import java.io.IOException;
import java.lang.reflect.Array;
import java.lang.reflect.Constructor;
import java.lang.reflect.Field;
import java.lang.reflect.InvocationTargetException;
import java.lang.reflect.Method;
import java.lang.reflect.Modifier;
import java.nio.file.Files;
import java.nio.file.Path;
import java.util.ArrayList;
import java.util.Arrays;
import java.util.IdentityHashMap;
import java.util.List;
import java.util.TreeSet;
import java.util.regex.Matcher;
import java.util.regex.Pattern;

/** The class has the document's face, and keeps to those rules of LANGUAGE.md that can be looked up. */
public final class RulesTest {
    private static final String[] FACE = {
        "type 1", "clear 0", "land 0", "peak 2", "ridge 2", "notes 2", "erases 1", "mends 3", "sketches 3", "undo 0",
        "seen 3", "bearing 3", "stands 3", "panorama 3", "notch 2", "fits 5", "score 3", "wholes 0", "whole 2",
        "best 1", "doubt 0", "odd 0", "clouds 4", "forget 0", "unseen 0", "keep 1", "back 1", "count 1"};

    private static final Answers answers = new Answers();

    public static void main(String[] args) throws IOException {
        methods();
        constructorsAndFields();
        nested();
        String source = Files.readString(Path.of("src/main/java/HorizonPeaks.java"));
        String code = source.replaceAll("(?s)/\\*.*?\\*/", "").replaceAll("//[^\n]*", "");
        words(code);
        lengthsAndObjects(code);
        noCallThrows();
        room();
        answers.end();
    }

    private static void methods() {
        TreeSet<String> got = new TreeSet<>();
        for (Method method : HorizonPeaks.class.getDeclaredMethods()) {
            int modifiers = method.getModifiers();
            if (Modifier.isPrivate(modifiers)) {
                continue;
            }
            boolean ints = method.getReturnType() == int.class;
            for (Class<?> type : method.getParameterTypes()) {
                ints &= type == int.class;
            }
            boolean plain = Modifier.isPublic(modifiers) && !Modifier.isStatic(modifiers) && ints;
            got.add(method.getName() + " " + method.getParameterCount() + (plain ? "" : " of another form"));
        }
        answers.due("face", got.toString(), new TreeSet<>(Arrays.asList(FACE)).toString());
    }

    private static void constructorsAndFields() {
        answers.due("class", Modifier.toString(HorizonPeaks.class.getModifiers()), "public final");
        Constructor<?>[] constructors = HorizonPeaks.class.getDeclaredConstructors();
        answers.due("constructors", constructors.length, 1);
        answers.due("constructor", constructors[0].toString(), "public HorizonPeaks()");
        TreeSet<String> open = new TreeSet<>();
        for (Field field : HorizonPeaks.class.getDeclaredFields()) {
            if (!Modifier.isPrivate(field.getModifiers())) {
                open.add(Modifier.toString(field.getModifiers()) + " " + field.getType() + " " + field.getName());
            }
        }
        answers.due("constants", open.toString(), "[public static final int BAD, public static final int FULL, "
                + "public static final int NONE, public static final int STATE]");
        answers.due("values", HorizonPeaks.BAD + " " + HorizonPeaks.STATE + " " + HorizonPeaks.FULL + " "
                + HorizonPeaks.NONE, "-1 -2 -3 -9");
    }

    private static void nested() {
        List<Class<?>> all = new ArrayList<>(List.of(HorizonPeaks.class.getDeclaredClasses()));
        answers.due("twelve classes at most", all.size() <= 11 ? 1 : 0, 1);
        all.add(HorizonPeaks.class);
        for (Class<?> one : all) {
            int fields = 0;
            for (Field field : one.getDeclaredFields()) {
                boolean isStatic = Modifier.isStatic(field.getModifiers());
                fields += isStatic ? 0 : 1;
                boolean changes = isStatic && !Modifier.isFinal(field.getModifiers());
                answers.due("static and not final: " + field, changes ? 1 : 0, 0);
            }
            answers.due("fields of " + one, fields <= 20 ? 1 : 0, 1);
            boolean inner = one != HorizonPeaks.class && !Modifier.isStatic(one.getModifiers());
            answers.due("not static: " + one, inner ? 1 : 0, 0);
            for (Method method : one.getDeclaredMethods()) {
                answers.due("parameters of " + method, method.getParameterCount() <= 7 ? 1 : 0, 1);
                boolean takes = one != HorizonPeaks.class || Modifier.isPrivate(method.getModifiers());
                answers.due("name of the face: " + method, takes && isOfFace(method.getName()) ? 1 : 0, 0);
            }
        }
    }

    private static boolean isOfFace(String name) {
        for (String row : FACE) {
            if (row.startsWith(name + " ")) {
                return true;
            }
        }
        return false;
    }

    /** No method has more than sixty lines; objects are made with the object that holds them, by no call. */
    private static void lengthsAndObjects(String code) {
        Pattern head = Pattern.compile("( {4}| {8})(?:[a-z]+ )*(\\S+ )?(\\w+)\\([^()]*\\) \\{");
        String indent = null;
        String method = "";
        boolean constructor = false;
        int lines = 0;
        for (String line : code.split("\n")) {
            Matcher start = head.matcher(line);
            if (indent == null && start.matches()) {
                indent = start.group(1);
                method = start.group(3);
                constructor = Character.isUpperCase(method.charAt(0));
                lines = 0;
            }
            lines++;
            boolean makes = line.contains("new ");
            boolean may = indent == null ? line.contains(" final ") : constructor;
            answers.due("an object is made in " + method + ": " + line.trim(), makes && !may ? 1 : 0, 0);
            if (indent != null && line.equals(indent + "}")) {
                answers.due("lines of " + method, lines <= 60 ? 1 : 0, 1);
                indent = null;
            }
        }
        answers.due("every method has an end", indent == null ? 1 : 0, 1);
    }

    /** Each call with numbers at the edges of all that are told and far beyond, on objects of three states. */
    private static void noCallThrows() {
        List<Edges.Maker> states = List.of(HorizonPeaks::new, Edges::busy, Edges::full);
        for (Edges.Maker state : states) {
            for (Method method : HorizonPeaks.class.getDeclaredMethods()) {
                if (Modifier.isPublic(method.getModifiers())) {
                    callWithAll(method, state.make());
                }
            }
        }
    }

    // One object for all of them, as rule 7 speaks of any state, behind 512 calls too.
    private static void callWithAll(Method method, HorizonPeaks x) {
        int[] some = {Integer.MIN_VALUE, -2, -1, 0, 1, 2, 7, 8, 9, 63, 64, 480, 4096, Integer.MAX_VALUE};
        int parameters = method.getParameterCount();
        long rows = 1;
        for (int i = 0; i < parameters; i++) {
            rows *= some.length;
        }
        String thrown = "";
        for (long row = 0; row < rows && thrown.isEmpty(); row++) {
            Object[] numbers = new Object[parameters];
            long rest = row;
            for (int i = 0; i < parameters; i++) {
                numbers[i] = some[(int) (rest % some.length)];
                rest /= some.length;
            }
            thrown = thrownBy(method, x, numbers);
        }
        answers.due(method.getName() + " throws", thrown, "");
    }

    private static String thrownBy(Method method, HorizonPeaks x, Object[] numbers) {
        try {
            method.invoke(x, numbers);
            return "";
        } catch (InvocationTargetException thrown) {
            return Arrays.toString(numbers) + " " + thrown.getCause();
        } catch (IllegalAccessException thrown) {
            return thrown.toString();
        }
    }

    /** An object holds few others, and as many behind all its calls as at first: a thousand have room. */
    private static void room() {
        long[] atFirst = sizeOf(new HorizonPeaks());
        answers.due("objects and arrays: " + atFirst[0], atFirst[0] <= 100 ? 1 : 0, 1);
        answers.due("fields and elements: " + atFirst[1], atFirst[1] <= 7000 ? 1 : 0, 1);
        HorizonPeaks x = Edges.full();
        x.wholes();
        x.odd();
        x.unseen();
        x.land();
        answers.due("size behind calls", Arrays.toString(sizeOf(x)), Arrays.toString(atFirst));
    }

    /** How many objects and arrays hang on one, itself too, and how many fields and elements they have. */
    private static long[] sizeOf(Object root) {
        IdentityHashMap<Object, Boolean> known = new IdentityHashMap<>();
        List<Object> open = new ArrayList<>(List.of(root));
        known.put(root, true);
        long parts = 0;
        for (int i = 0; i < open.size(); i++) {
            List<Object> below = new ArrayList<>();
            parts += partsOf(open.get(i), below);
            for (Object one : below) {
                if (one != null && known.put(one, true) == null) {
                    open.add(one);
                }
            }
        }
        return new long[] {open.size(), parts};
    }

    private static int partsOf(Object one, List<Object> below) {
        if (one.getClass().isArray()) {
            int length = Array.getLength(one);
            for (int i = 0; i < length && !one.getClass().getComponentType().isPrimitive(); i++) {
                below.add(Array.get(one, i));
            }
            return length;
        }
        int fields = 0;
        for (Field field : one.getClass().getDeclaredFields()) {
            if (!Modifier.isStatic(field.getModifiers())) {
                fields++;
                field.setAccessible(true);
                if (!field.getType().isPrimitive()) {
                    below.add(valueOf(field, one));
                }
            }
        }
        return fields;
    }

    private static Object valueOf(Field field, Object one) {
        try {
            return field.get(one);
        } catch (IllegalAccessException thrown) {
            throw new IllegalStateException(thrown);
        }
    }

    private static void words(String code) {
        String[] ruledOut = {"\\bthrow\\b", "\\btry\\b", "\\bcatch\\b", "\\bsynchronized\\b", "\\bassert\\b",
            "->", "::", "\\bimport\\b", "\\bpackage\\b", "Exact\\b", "\\bnative\\b", "\\bvolatile\\b", "\"",
            "\\bdouble\\b", "\\bfloat\\b", "\\bprotected\\b", "while \\(true\\)", "for \\(;;\\)", "\\bnew \\w+\\(.*\\{",
            "\\[\\]\\[\\]", "\\bstatic \\{", "\\b(equals|hashCode|toString)\\b"};
        for (String word : ruledOut) {
            answers.due("in the source: " + word, Pattern.compile(word).matcher(code).find() ? 1 : 0, 0);
        }
        Matcher library = Pattern.compile("\\b([A-Z][A-Za-z]+)\\.([a-z][A-Za-z]*)\\(").matcher(code);
        while (library.find()) {
            String call = library.group(1) + "." + library.group(2);
            answers.due("of the library: " + call, List.of("Math.min", "Math.max", "Math.abs", "Math.floorMod",
                    "Math.floorDiv").contains(call) ? 1 : 0, 1);
        }
    }
}
