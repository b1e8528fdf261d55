import java.io.IOException;
import java.lang.reflect.Constructor;
import java.lang.reflect.Field;
import java.lang.reflect.Method;
import java.lang.reflect.Modifier;
import java.nio.file.Files;
import java.nio.file.Path;
import java.util.ArrayList;
import java.util.Arrays;
import java.util.List;
import java.util.TreeSet;
import java.util.regex.Matcher;
import java.util.regex.Pattern;

/** The class has the document's face, and keeps to those rules of LANGUAGE.md that can be looked up. */
public final class RulesTest {
    private static final String[] FACE = {
        "type 1", "clear 0", "land 0", "peak 2", "ridge 2", "notes 2", "erases 1", "mends 3", "sketches 3", "undo 0",
        "seen 3", "bearing 3", "stands 3", "panorama 3", "notch 2", "fits 5", "score 3", "wholes 0", "whole 2",
        "best 1", "doubt 0", "odd 0", "clouds 4", "forget 0", "unseen 0", "keep 1", "back 1", "count 1"};

    private static final Answers answers = new Answers();

    public static void main(String[] args) throws IOException {
        methods();
        constructorsAndFields();
        nested();
        String source = Files.readString(Path.of("src/main/java/HorizonPeaks.java"));
        String code = source.replaceAll("(?s)/\\*.*?\\*/", "").replaceAll("//[^\n]*", "");
        words(code);
        lengthsAndObjects(code);
        answers.end();
    }

    private static void methods() {
        TreeSet<String> got = new TreeSet<>();
        for (Method method : HorizonPeaks.class.getDeclaredMethods()) {
            int modifiers = method.getModifiers();
            if (Modifier.isPrivate(modifiers)) {
                continue;
            }
            boolean ints = method.getReturnType() == int.class;
            for (Class<?> type : method.getParameterTypes()) {
                ints &= type == int.class;
            }
            boolean plain = Modifier.isPublic(modifiers) && !Modifier.isStatic(modifiers) && ints;
            got.add(method.getName() + " " + method.getParameterCount() + (plain ? "" : " of another form"));
        }
        answers.due("face", got.toString(), new TreeSet<>(Arrays.asList(FACE)).toString());
    }

    private static void constructorsAndFields() {
        answers.due("class", Modifier.toString(HorizonPeaks.class.getModifiers()), "public final");
        Constructor<?>[] constructors = HorizonPeaks.class.getDeclaredConstructors();
        answers.due("constructors", constructors.length, 1);
        answers.due("constructor", constructors[0].toString(), "public HorizonPeaks()");
        TreeSet<String> open = new TreeSet<>();
        for (Field field : HorizonPeaks.class.getDeclaredFields()) {
            if (!Modifier.isPrivate(field.getModifiers())) {
                open.add(Modifier.toString(field.getModifiers()) + " " + field.getType() + " " + field.getName());
            }
        }
        answers.due("constants", open.toString(), "[public static final int BAD, public static final int FULL, "
                + "public static final int NONE, public static final int STATE]");
        answers.due("values", HorizonPeaks.BAD + " " + HorizonPeaks.STATE + " " + HorizonPeaks.FULL + " "
                + HorizonPeaks.NONE, "-1 -2 -3 -9");
    }

    private static void nested() {
        List<Class<?>> all = new ArrayList<>(List.of(HorizonPeaks.class.getDeclaredClasses()));
        answers.due("twelve classes at most", all.size() <= 11 ? 1 : 0, 1);
        all.add(HorizonPeaks.class);
        for (Class<?> one : all) {
            int fields = 0;
            for (Field field : one.getDeclaredFields()) {
                boolean isStatic = Modifier.isStatic(field.getModifiers());
                fields += isStatic ? 0 : 1;
                boolean changes = isStatic && !Modifier.isFinal(field.getModifiers());
                answers.due("static and not final: " + field, changes ? 1 : 0, 0);
            }
            answers.due("fields of " + one, fields <= 20 ? 1 : 0, 1);
            boolean inner = one != HorizonPeaks.class && !Modifier.isStatic(one.getModifiers());
            answers.due("not static: " + one, inner ? 1 : 0, 0);
            for (Method method : one.getDeclaredMethods()) {
                answers.due("parameters of " + method, method.getParameterCount() <= 7 ? 1 : 0, 1);
                boolean takes = one != HorizonPeaks.class || Modifier.isPrivate(method.getModifiers());
                answers.due("name of the face: " + method, takes && isOfFace(method.getName()) ? 1 : 0, 0);
            }
        }
    }

    private static boolean isOfFace(String name) {
        for (String row : FACE) {
            if (row.startsWith(name + " ")) {
                return true;
            }
        }
        return false;
    }

    /** No method has more than sixty lines; objects are made with the object that holds them, by no call. */
    private static void lengthsAndObjects(String code) {
        Pattern head = Pattern.compile("( {4}| {8})(?:[a-z]+ )*(\\S+ )?(\\w+)\\([^()]*\\) \\{");
        String indent = null;
        String method = "";
        boolean constructor = false;
        int lines = 0;
        for (String line : code.split("\n")) {
            Matcher start = head.matcher(line);
            if (indent == null && start.matches()) {
                indent = start.group(1);
                method = start.group(3);
                constructor = Character.isUpperCase(method.charAt(0));
                lines = 0;
            }
            lines++;
            boolean makes = line.contains("new ");
            boolean may = indent == null ? line.contains(" final ") : constructor;
            answers.due("an object is made in " + method + ": " + line.trim(), makes && !may ? 1 : 0, 0);
            if (indent != null && line.equals(indent + "}")) {
                answers.due("lines of " + method, lines <= 60 ? 1 : 0, 1);
                indent = null;
            }
        }
        answers.due("every method has an end", indent == null ? 1 : 0, 1);
    }

    private static void words(String code) {
        String[] ruledOut = {"\\bthrow\\b", "\\btry\\b", "\\bcatch\\b", "\\bsynchronized\\b", "\\bassert\\b",
            "->", "::", "\\bimport\\b", "\\bpackage\\b", "Exact\\b", "\\bnative\\b", "\\bvolatile\\b", "\"",
            "\\bdouble\\b", "\\bfloat\\b", "\\bprotected\\b", "while \\(true\\)", "for \\(;;\\)"};
        for (String word : ruledOut) {
            answers.due("in the source: " + word, Pattern.compile(word).matcher(code).find() ? 1 : 0, 0);
        }
        Matcher library = Pattern.compile("\\b([A-Z][A-Za-z]+)\\.([a-z][A-Za-z]*)\\(").matcher(code);
        while (library.find()) {
            String call = library.group(1) + "." + library.group(2);
            answers.due("of the library: " + call, List.of("Math.min", "Math.max", "Math.abs", "Math.floorMod",
                    "Math.floorDiv").contains(call) ? 1 : 0, 1);
        }
    }
}
