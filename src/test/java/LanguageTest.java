import java.io.IOException;
import java.lang.reflect.Constructor;
import java.lang.reflect.Field;
import java.lang.reflect.Method;
import java.lang.reflect.Modifier;
import java.nio.charset.StandardCharsets;
import java.nio.file.Files;
import java.nio.file.Path;
import java.util.ArrayList;
import java.util.List;
import java.util.Set;
import java.util.TreeSet;
import java.util.regex.Matcher;
import java.util.regex.Pattern;

/** What of ../shared/LANGUAGE.md and of the document's face can be told from the source and the class. */
public final class LanguageTest {
    private static final String SOURCE = "src/main/java/FuseFrames.java";
    private static int wrong = 0;

    private static void wrong(String what) {
        wrong++;
        System.out.println(what);
    }

    private static void face(String document) {
        Set<String> due = new TreeSet<>();
        Matcher m = Pattern.compile("public (int|long) (\\w+)\\(([^)]*)\\);").matcher(document);
        while (m.find()) {
            due.add(m.group(1) + " " + m.group(2) + " " + (m.group(3).isEmpty() ? 0 : m.group(3).split(",").length));
        }
        if (due.size() != 42) {
            wrong("the document's face has " + due.size() + " methods");
        }
        Set<String> there = new TreeSet<>();
        Set<String> names = new TreeSet<>();
        for (Method method : FuseFrames.class.getDeclaredMethods()) {
            if (Modifier.isPublic(method.getModifiers())) {
                there.add(method.getReturnType() + " " + method.getName() + " " + method.getParameterCount());
                names.add(method.getName());
            } else if (!Modifier.isPrivate(method.getModifiers())) {
                wrong("neither public nor private: " + method);
            }
        }
        if (!due.equals(there)) {
            wrong("the face is " + there + ", due is " + due);
        }
        List<Class<?>> classes = new ArrayList<>(List.of(FuseFrames.class.getDeclaredClasses()));
        classes.add(FuseFrames.class);
        for (Class<?> c : classes) {
            lookAt(c, names);
        }
        if (classes.size() > 12) {
            wrong(classes.size() + " classes");
        }
    }

    private static void lookAt(Class<?> c, Set<String> names) {
        if (!Modifier.isFinal(c.getModifiers()) || c != FuseFrames.class && !Modifier.isStatic(c.getModifiers())) {
            wrong(c + " is not final, or an inner one");
        }
        for (Method method : c.getDeclaredMethods()) {
            if (!Modifier.isPublic(method.getModifiers()) && names.contains(method.getName())) {
                wrong("a public method's name: " + method);
            }
            if (method.getParameterCount() > 7) {
                wrong("too many parameters: " + method);
            }
        }
        int fields = 0;
        for (Field field : c.getDeclaredFields()) {
            int how = field.getModifiers();
            fields += Modifier.isStatic(how) ? 0 : 1;
            if (Modifier.isStatic(how) && !Modifier.isFinal(how)) {
                wrong("static and not final: " + field);
            }
            if (c == FuseFrames.class && !Modifier.isPrivate(how) && !field.getName().equals("NONE")) {
                wrong("not private: " + field);
            }
        }
        if (fields > 20) {
            wrong(c + " has " + fields + " fields");
        }
        for (Constructor<?> made : c.getDeclaredConstructors()) {
            if (c == FuseFrames.class && (!Modifier.isPublic(made.getModifiers()) || made.getParameterCount() != 0)) {
                wrong("another constructor: " + made);
            }
        }
    }

    private static void words(String source) {
        String code = source.replaceAll("(?s)/\\*.*?\\*/", " ").replaceAll("//[^\n]*", " ").replaceAll("\"[^\"\n]*\"", "\"\"");
        String[] never = {"\\bthrows?\\b", "\\btry\\b", "\\bcatch\\b", "\\bfinally\\b", "\\bsynchronized\\b", "\\bassert\\b",
            "->", "::", "\\w+Exact\\b", "\\bequals\\b", "\\bhashCode\\b", "\\btoString\\b", "\\bObject\\b", "\\bnative\\b",
            "\\bRandom\\b", "\\bThread\\b", "\\bMIN_VALUE\\b", "\\bMAX_VALUE\\b", "\\bpackage\\b", "\\bprotected\\b",
            "\\[\\]\\[\\]\\[\\]", "\\bstatic\\s*\\{", "\"\"\\s*\\+", "\\+\\s*\"\""};
        for (String n : never) {
            Matcher m = Pattern.compile(n).matcher(code);
            if (m.find()) {
                wrong("not in the language: " + m.group());
            }
        }
        Matcher library = Pattern.compile("\\b(System|Arrays|Math|Integer|Long|String|List|ArrayList)\\.(\\w+)").matcher(code);
        Set<String> fine = Set.of("System.arraycopy", "Arrays.fill", "Math.max", "Math.min", "Math.abs", "Integer.bitCount",
                "Arrays.copyOf", "Arrays.copyOfRange");
        while (library.find()) {
            if (!fine.contains(library.group())) {
                wrong("not known to be in the library's part: " + library.group());
            }
        }
        Matcher imports = Pattern.compile("import ([^;]+);").matcher(code);
        while (imports.find()) {
            if (!imports.group(1).equals("java.util.Arrays")) {
                wrong("import of " + imports.group(1));
            }
        }
        for (int i = 0; i < source.length(); i++) {
            if (source.charAt(i) > 126 || source.charAt(i) < 32 && source.charAt(i) != '\n') {
                wrong("a sign " + (int) source.charAt(i) + " at " + i);
            }
        }
    }

    private static void lengths(String source) {
        String[] lines = source.split("\n");
        int start = -1;
        for (int i = 0; i < lines.length; i++) {
            if (lines[i].length() > 110) {
                wrong("line " + (i + 1) + " is long");
            }
            if (lines[i].matches("( {4}| {8})[\\w ].*\\) \\{") && !lines[i].matches(" +(if|for|while|switch|\\}).*")) {
                start = i;
            }
            if (start >= 0 && lines[i].matches("( {4}| {8})\\}")) {
                if (i - start + 1 > 60) {
                    wrong("the method at line " + (start + 1) + " has " + (i - start + 1) + " lines");
                }
                start = -1;
            }
        }
    }

    public static void main(String[] args) throws IOException {
        String source = Files.readString(Path.of(SOURCE), StandardCharsets.ISO_8859_1);
        String document = Files.readString(Path.of("../shared/DOC.md"), StandardCharsets.UTF_8);
        face(document);
        words(source);
        lengths(source);
        System.out.println(wrong == 0 ? "the source keeps to the language" : wrong + " things are outside the language");
        if (wrong != 0) {
            System.exit(1);
        }
    }
}
