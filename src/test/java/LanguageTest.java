import java.lang.reflect.Constructor;
import java.lang.reflect.Field;
import java.lang.reflect.Method;
import java.lang.reflect.Modifier;
import java.nio.file.Files;
import java.nio.file.Path;
import java.util.ArrayList;
import java.util.List;
import java.util.Set;
import java.util.TreeSet;
import java.util.regex.Matcher;
import java.util.regex.Pattern;
import java.util.stream.Collectors;
import java.util.stream.Stream;

/** The public face, and those rules of LANGUAGE.md that can be seen from the class and from its text. */
public final class LanguageTest {
    private static final String SOURCE = "src/main/java/SleepingJudge.java";
    private static final String[] FACE = {
        "row 3", "set 3", "copy 5", "drop 1", "feed 1", "court 0", "fault 0", "undo 0", "hum 1", "hear 1", "appeal 1",
        "forget 1", "learn 2", "ofHum 2", "ofCase 2", "stand 1", "sleep 3", "dreams 2", "least 3", "save 2", "can 2",
        "order 1", "first 0", "clashes 1", "deaf 0", "same 1", "who 7", "began 6", "snored 4", "gone 3", "drawn 3",
        "image 1", "restore 1", "kind 1", "as 2", "ask 2", "trace 1", "count 1", "status 0"};
    private static final String[] FORBIDDEN = {
        "\\bthrow\\b", "\\btry\\b", "\\bcatch\\b", "\\bfinally\\b", "\\bsynchronized\\b", "\\bassert\\b", "->", "::",
        "\\bpackage\\b", "\\bprotected\\b", "\\bwhile *\\(true\\)", "for *\\(;;\\)", "Exact\\b", "\\bSystem\\.(?!arraycopy\\b)",
        "\\bThread\\b", "\\bRandom\\b", "\\bstatic *\\{", "\\bvar\\b", "\\bObject\\b", "\\btransient\\b", "\\bvolatile\\b"};
    private static final Set<String> FACE_NAMES = Stream.of(FACE).map(one -> one.split(" ")[0]).collect(Collectors.toSet());
    private static final Check check = new Check();

    public static void main(String[] args) throws Exception {
        constants();
        theFace();
        classesInside();
        String text = Files.readString(Path.of(SOURCE));
        theText(text);
        methodsAreShort(text.split("\n"));
        check.end();
    }

    private static void constants() {
        check.due("NONE", SleepingJudge.NONE, -1000000);
        check.due("BAD", SleepingJudge.BAD, -1000001);
        check.due("STATE", SleepingJudge.STATE, -1000002);
        check.due("FULL", SleepingJudge.FULL, -1000003);
    }

    private static void theFace() {
        Set<String> due = new TreeSet<>(List.of(FACE));
        Set<String> got = new TreeSet<>();
        for (Method method : SleepingJudge.class.getDeclaredMethods()) {
            if (Modifier.isPublic(method.getModifiers())) {
                got.add(method.getName() + " " + method.getParameterCount());
                boolean wide = method.getName().equals("gone");
                check.due("what " + method.getName() + " gives", method.getReturnType().getName(), wide ? "long" : "int");
            } else {
                check.due(method.getName() + " is private", Modifier.isPrivate(method.getModifiers()) ? 1 : 0, 1);
            }
        }
        check.due("methods", got.toString(), due.toString());
        check.due("constructors", SleepingJudge.class.getDeclaredConstructors().length, 1);
        Constructor<?> made = SleepingJudge.class.getDeclaredConstructors()[0];
        check.due("constructor", made.getParameterCount() + (Modifier.isPublic(made.getModifiers()) ? 0 : 1), 0);
        check.due("final", Modifier.isFinal(SleepingJudge.class.getModifiers()) ? 1 : 0, 1);
        Set<String> constants = new TreeSet<>();
        for (Field field : SleepingJudge.class.getDeclaredFields()) {
            if (!Modifier.isPrivate(field.getModifiers())) {
                constants.add(field.getName());
            }
        }
        check.due("constants", constants.toString(), "[BAD, FULL, NONE, STATE]");
    }

    private static void classesInside() {
        List<Class<?>> all = new ArrayList<>(List.of(SleepingJudge.class.getDeclaredClasses()));
        check.due("classes", all.size() <= 12 ? 1 : 0, 1);
        all.add(SleepingJudge.class);
        for (Class<?> type : all) {
            int modifiers = type.getModifiers();
            check.due(type + " is static", Modifier.isStatic(modifiers) || type == SleepingJudge.class ? 1 : 0, 1);
            int fields = 0;
            for (Field field : type.getDeclaredFields()) {
                if (Modifier.isStatic(field.getModifiers())) {
                    check.due(field + " is final", Modifier.isFinal(field.getModifiers()) ? 1 : 0, 1);
                } else {
                    fields++;
                }
            }
            check.due("fields of " + type, fields <= 20 ? 1 : 0, 1);
            for (Method method : type.getDeclaredMethods()) {
                check.due("parameters of " + method, method.getParameterCount() <= 7 ? 1 : 0, 1);
                boolean hidden = Modifier.isPrivate(method.getModifiers());
                check.due("name of " + method, hidden && FACE_NAMES.contains(method.getName()) ? 1 : 0, 0);
            }
        }
    }

    private static void theText(String text) {
        String code = text.replaceAll("(?s)/\\*.*?\\*/", " ").replaceAll("//[^\n]*", " ").replaceAll("'[^'\n]*'", "' '");
        for (String forbidden : FORBIDDEN) {
            Matcher found = Pattern.compile(forbidden).matcher(code);
            check.due("text", found.find() ? found.group() : "", "");
        }
        // All that is made is made with the object, in a field, so that no run of calls can fill the room.
        for (String line : code.split("\n")) {
            boolean makes = Pattern.compile("\\bnew\\b|\\.clone\\(|copyOf|StringBuilder|ArrayList").matcher(line).find();
            check.due(line, makes && !line.matches(" +(private )?final [^()]+ = .*") ? 1 : 0, 0);
        }
        Matcher imports = Pattern.compile("import +([^;]+);").matcher(code);
        while (imports.find()) {
            check.due("import", imports.group(1), "java.util.Arrays");
        }
        for (int k = 0; k < text.length(); k++) {
            if (text.charAt(k) > 126) {
                check.due("sign at " + k, text.charAt(k), 0);
            }
        }
    }

    /** A method begins with a line that opens a body within a class, and ends with a brace as far in. */
    private static void methodsAreShort(String[] lines) {
        for (int k = 0; k < lines.length; k++) {
            Matcher begins = Pattern.compile("^( {4}| {8})\\w[^;=]*\\) \\{$").matcher(lines[k]);
            if (begins.find() && !lines[k].matches(" *(if|for|while|switch)\\b.*")) {
                int end = k;
                while (!lines[end].equals(begins.group(1) + "}")) {
                    end++;
                }
                check.due("lines of" + lines[k], end - k <= 60 ? 1 : 0, 1);
            }
        }
    }
}
