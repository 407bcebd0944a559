import java.io.IOException;
import java.lang.reflect.Field;
import java.lang.reflect.Method;
import java.lang.reflect.Modifier;
import java.nio.charset.StandardCharsets;
import java.nio.file.Files;
import java.nio.file.Path;
import java.util.ArrayList;
import java.util.Arrays;
import java.util.List;
import java.util.Set;
import java.util.TreeSet;
import java.util.regex.Matcher;
import java.util.regex.Pattern;

/** The face of the class, and those rules of LANGUAGE.md that can be seen in its text or its fields. */
public final class FaceTest {
    private static final String[] FACE = {
        "int pass(int)", "int tract(int,int)", "int deed(int,int,int,int,int)", "int title(int,int,int)",
        "int lease(int,int,int,int,int)", "boolean isHeld(int,int)", "int unit(int)", "int well(int)",
        "int oil(int,int,int,int)", "int cost(int,int,int)", "int tax(int,int)", "boolean consent(int,int,boolean)",
        "int penalty(int)", "int interest(int,int,int,boolean)", "int revenue(int,int)", "int due(int,int,int)",
        "long balance(int,int,int)", "boolean agrees(int,int)", "boolean suspend(int,boolean)", "int least(int)",
        "long payDay()", "long owed(int)", "long paid(int)"};

    private static final String[] LEFT_OUT = {
        "->", "::", "\\bimport\\b", "\\bpackage\\b", "\\bfinally\\b", "\\bsynchronized\\b", "\\bassert\\b", "\\bcatch\\b",
        "Exact\\b", "\\bvar\\b", "\\bSystem\\b", "\\bThread\\b", "\\bRandom\\b", "\\bequals\\b", "\\bhashCode\\b",
        "\\btoString\\b", "\\bNaN\\b", "[^\\x00-\\x7f]", "new \\w+Exception\\(\"[^\"]*\" \\+"};

    private static final Path DOCUMENT = Path.of("../shared/DOC.md");
    private static final Pattern HEAD = Pattern.compile("Ahead of the calls (.*) the interface says: (.*)\\.");

    public static void main(String[] args) throws IOException {
        Path file = Path.of(args.length > 0 ? args[0] : "src/main/java/Divisionorder.java");
        face();
        members();
        sizes();
        text(file);
        if (Files.isReadable(DOCUMENT)) {
            String inOneLine = Files.readString(file, StandardCharsets.ISO_8859_1).replaceAll("\\s+", " ");
            wordsOfTheFace(inOneLine);
            headsOfTheCalls(inOneLine);
        } else {
            System.out.println("no " + DOCUMENT + ": the words of the face are not looked up");
        }
        Check.end("FaceTest");
    }

    private static String signature(Method method) {
        StringBuilder text = new StringBuilder(method.getReturnType().getSimpleName());
        text.append(' ').append(method.getName()).append('(');
        for (Class<?> type : method.getParameterTypes()) {
            text.append(text.charAt(text.length() - 1) == '(' ? "" : ",").append(type.getSimpleName());
        }
        return text.append(')').toString();
    }

    private static void face() {
        Set<String> due = new TreeSet<>(Arrays.asList(FACE));
        Set<String> got = new TreeSet<>();
        Set<String> publicNames = new TreeSet<>();
        for (Method method : Divisionorder.class.getDeclaredMethods()) {
            if (!Modifier.isPrivate(method.getModifiers())) {
                got.add(signature(method));
                publicNames.add(method.getName());
                Check.same(method + " is public", Modifier.isPublic(method.getModifiers()), true);
                Check.same(method + " is static", Modifier.isStatic(method.getModifiers()), false);
            }
        }
        Check.same("the face", got, due);
        for (Method method : Divisionorder.class.getDeclaredMethods()) {
            if (Modifier.isPrivate(method.getModifiers())) {
                Check.same(method + " bears a public name", publicNames.contains(method.getName()), false);
            }
        }
    }

    private static void members() {
        int modifiers = Divisionorder.class.getModifiers();
        Check.same("public and final", Modifier.isPublic(modifiers) && Modifier.isFinal(modifiers), true);
        Check.same("constructors", Divisionorder.class.getConstructors().length, 1);
        for (Field field : Divisionorder.class.getDeclaredFields()) {
            int is = field.getModifiers();
            Check.same(field + " is seen", Modifier.isPrivate(is), !field.getName().equals("NONE"));
            Check.same(field + " is static, but not final", Modifier.isStatic(is) && !Modifier.isFinal(is), false);
        }
        for (Class<?> inner : Divisionorder.class.getDeclaredClasses()) {
            int is = inner.getModifiers();
            Check.same(inner + " is static, and not public", Modifier.isStatic(is) && !Modifier.isPublic(is), true);
        }
    }

    /** Rule 11. */
    private static void sizes() {
        List<Class<?>> classes = new ArrayList<>(List.of(Divisionorder.class.getDeclaredClasses()));
        classes.add(Divisionorder.class);
        Check.same("twelve classes at most", classes.size() <= 12, true);
        for (Class<?> each : classes) {
            long fields = Arrays.stream(each.getDeclaredFields()).filter(f -> !Modifier.isStatic(f.getModifiers()))
                    .count();
            Check.same(each + " has twenty fields at most", fields <= 20, true);
            for (Method method : each.getDeclaredMethods()) {
                Check.same(method + " has seven parameters at most", method.getParameterCount() <= 7, true);
            }
        }
    }

    private static void text(Path file) throws IOException {
        String text = Files.readString(file, StandardCharsets.ISO_8859_1);
        for (String pattern : LEFT_OUT) {
            Matcher found = Pattern.compile(pattern).matcher(text);
            Check.same(pattern, found.find() ? "stands at " + found.start() : "is left out", "is left out");
        }
    }

    /** Reflection does not see the names of parameters, nor each class behind a throws. */
    private static void wordsOfTheFace(String inOneLine) throws IOException {
        int found = 0;
        for (String line : Files.readAllLines(DOCUMENT, StandardCharsets.UTF_8)) {
            if (line.startsWith("    public ")) {
                String words = line.strip();
                String due = words.endsWith(");") || words.contains(") throws ") ? words.replace(";", " {") : words;
                Check.same(words, inOneLine.contains(" " + due + " "), true);
                found++;
            }
        }
        Check.same("the constant, the constructor and the calls", found, 2 + FACE.length);
    }

    private static void headsOfTheCalls(String inOneLine) throws IOException {
        int found = 0;
        int position = 0;
        for (String line : Files.readAllLines(DOCUMENT, StandardCharsets.UTF_8)) {
            Matcher head = HEAD.matcher(line);
            if (head.matches()) {
                position = behind(inOneLine, "// " + head.group(2) + " public ", position);
                for (String call : head.group(1).replace("`", "").split(", ")) {
                    position = behind(inOneLine, " " + call + "(", position);
                    found++;
                }
            }
        }
        Check.same("calls behind a head", found, FACE.length);
    }

    /** Where the words are, from that position on; the calls and their heads stand in the order of the document. */
    private static int behind(String text, String words, int position) {
        int found = text.indexOf(words, position);
        Check.same(words + " stands in its place", found >= 0, true);
        return found >= 0 ? found : position;
    }
}
