import java.io.IOException;
import java.lang.reflect.Constructor;
import java.lang.reflect.Field;
import java.lang.reflect.Method;
import java.lang.reflect.Modifier;
import java.nio.file.Files;
import java.nio.file.Path;
import java.util.HashSet;
import java.util.List;
import java.util.Set;
import java.util.TreeMap;
import java.util.TreeSet;
import java.util.regex.Matcher;
import java.util.regex.Pattern;

/** Rules of LANGUAGE.md that can be seen in the text of the class, or by looking at its members; and its face. */
public final class LanguageTest {
    private static final Path MAIN = Path.of("src/main/java/FairwayChancery.java");
    private static final Path DOC = Path.of("../shared/DOC.md");
    private static final Set<String> TYPES = Set.of("FairwayChancery", "String", "Math", "Integer",
            "IndexOutOfBoundsException", "IllegalArgumentException", "IllegalStateException",
            "UnsupportedOperationException", "NoSuchElementException", "ArithmeticException");
    private static final Set<String> CALLS = Set.of("Math.floorDiv", "Math.min", "Math.max", "Math.abs",
            "Integer.compare");

    public static void main(String[] args) throws IOException {
        String text = Files.readString(MAIN);
        String code = bare(text);
        words(text, code);
        names(code);
        methods(code);
        depth(code);
        members();
        face(Files.readString(DOC));
        rows(Files.readString(DOC));
        Check.end();
    }

    /** The text without comments, and without what stands in quotes. */
    private static String bare(String text) {
        return text.replaceAll("(?s)/\\*.*?\\*/", " ").replaceAll("//[^\n]*", " ")
                .replaceAll("\"(\\\\.|[^\"\\\\])*\"", "\"\"").replaceAll("'(\\\\.|[^'\\\\])'", "' '");
    }

    private static void words(String text, String code) {
        String[] never = {"->", "::", "\\bfinally\\b", "\\bsynchronized\\b", "\\bassert\\b", "\\btry\\b",
            "\\bcatch\\b", "\\bpackage\\b", "\\bthrow [^n]", "\\bprotected\\b", "\\bvar\\b", "@", "\\bvolatile\\b",
            "\\btransient\\b", "\\bnative\\b", "\\bstatic \\{", "\\byield\\b", "\\bsealed\\b"};
        for (String word : never) {
            Check.no("the class has " + word, Pattern.compile(word).matcher(code).find());
        }
        Check.same("imports", count(code, "\\bimport\\b"), 1);
        Check.yes("the one import", code.startsWith("import java.util.NoSuchElementException;"));
        Check.no("signs beyond 127", text.chars().anyMatch(c -> c > 127));
        Check.same("texts joined by +", count(code, "\"\" *\\+|\\+ *\"\""), 0);
    }

    private static int count(String code, String pattern) {
        Matcher m = Pattern.compile(pattern).matcher(code);
        int count = 0;
        while (m.find()) {
            count++;
        }
        return count;
    }

    private static void names(String code) {
        Set<String> known = new HashSet<>(TYPES);
        Matcher own = Pattern.compile("\\bclass ([A-Z]\\w*)").matcher(code);
        while (own.find()) {
            known.add(own.group(1));
        }
        Check.yes("classes", known.size() - TYPES.size() < 12);
        Matcher used = Pattern.compile("\\b[A-Z]\\w*[a-z]\\w*\\b").matcher(code);
        while (used.find()) {
            Check.yes("the name " + used.group(), known.contains(used.group()));
        }
        Matcher call = Pattern.compile("\\b(Math|Integer)\\.\\w+").matcher(code);
        while (call.find()) {
            Check.yes("the call " + call.group(), CALLS.contains(call.group()));
        }
    }

    /** A method is short, and neither it nor a constructor has many parameters. */
    private static void methods(String code) {
        String[] lines = code.split("\n");
        int start = -1;
        String indent = "";
        for (int i = 0; i < lines.length; i++) {
            String line = lines[i];
            if (start < 0 && line.matches(" {4,8}[a-zA-Z][^=;]*\\(.*") && !line.matches(" *(if|for|while|switch|return).*")) {
                start = i;
                indent = line.substring(0, line.length() - line.stripLeading().length());
            } else if (start >= 0 && line.equals(indent + "}")) {
                Check.yes("short: " + lines[start].strip(), i - start <= 60);
                start = -1;
            }
        }
        Check.yes("all methods were seen to end", start < 0);
    }

    /** Calls of own methods, by their names; none calls itself, and the longest chain is short. */
    private static void depth(String code) {
        TreeMap<String, String> bodies = new TreeMap<>();
        Matcher head = Pattern.compile("\n {4,8}(?:[a-z]+ )*?(?:\\w+(?:\\[\\])? )?(\\w+)\\([^;{}]*\\)[^;{}]*\\{").matcher(code);
        int from = 0;
        String name = null;
        while (head.find()) {
            if (!Set.of("for", "if", "while", "switch").contains(head.group(1))) {
                if (name != null) {
                    bodies.merge(name, code.substring(from, head.start()), String::concat);
                }
                name = head.group(1);
                from = head.end();
            }
        }
        bodies.merge(name, code.substring(from), String::concat);
        Check.yes("methods were found", bodies.size() > 150);
        for (String start : bodies.keySet()) {
            Check.yes("the calls below " + start, longest(start, bodies, 0) <= 8);
        }
    }

    private static int longest(String name, TreeMap<String, String> bodies, int above) {
        if (above > 20) {
            return 1000;
        }
        int most = 0;
        Matcher call = Pattern.compile("\\b(?<!new )(\\w+)\\(").matcher(bodies.get(name));
        while (call.find()) {
            if (bodies.containsKey(call.group(1)) && !call.group(1).matches("[A-Z].*")) {
                most = Math.max(most, longest(call.group(1), bodies, above + 1));
            }
        }
        return 1 + most;
    }

    private static void members() {
        Class<?> main = FairwayChancery.class;
        Check.yes("public and final", Modifier.isPublic(main.getModifiers()) && Modifier.isFinal(main.getModifiers()));
        Set<String> face = new TreeSet<>();
        for (Method m : main.getDeclaredMethods()) {
            if (Modifier.isPublic(m.getModifiers())) {
                face.add(m.getName());
            }
        }
        for (Method m : main.getDeclaredMethods()) {
            boolean isPublic = Modifier.isPublic(m.getModifiers());
            Check.yes("public or private: " + m, isPublic || Modifier.isPrivate(m.getModifiers()));
            Check.no("the name of a public one: " + m, !isPublic && face.contains(m.getName()));
            Check.yes("parameters: " + m, m.getParameterCount() <= 7);
        }
        fields(main);
        for (Class<?> inner : main.getDeclaredClasses()) {
            Check.yes("static: " + inner, Modifier.isStatic(inner.getModifiers()));
            Check.no("public: " + inner, Modifier.isPublic(inner.getModifiers()));
            fields(inner);
            for (Method m : inner.getDeclaredMethods()) {
                Check.no("the name of a public one: " + m, face.contains(m.getName()));
                Check.yes("parameters: " + m, m.getParameterCount() <= 7);
            }
        }
    }

    private static void fields(Class<?> of) {
        int own = 0;
        for (Field f : of.getDeclaredFields()) {
            if (Modifier.isStatic(f.getModifiers())) {
                Check.yes("a constant: " + f, Modifier.isFinal(f.getModifiers())
                        && (f.getType() == int.class || f.getType() == char.class));
            } else {
                own++;
            }
            boolean isMain = of == FairwayChancery.class;
            Check.yes("private in the public class: " + f, !isMain || Modifier.isPrivate(f.getModifiers()));
        }
        Check.yes("fields of " + of + ": " + own, own <= 20);
    }

    /** Each line of the document's face has a member just like it, and there is no other public one. */
    private static void face(String doc) {
        int start = doc.indexOf("public final class FairwayChancery {");
        String[] lines = doc.substring(start, doc.indexOf("```", start)).split("\n");
        List<String> due = new java.util.ArrayList<>();
        for (String line : lines) {
            if (line.strip().startsWith("public ") && line.strip().endsWith(";")) {
                due.add(simple(line.strip()));
            }
        }
        TreeMap<String, Integer> ours = new TreeMap<>();
        for (Method m : FairwayChancery.class.getMethods()) {
            if (m.getDeclaringClass() == FairwayChancery.class) {
                ours.put(shape(m.getReturnType().getSimpleName() + " " + m.getName(), m.getParameterTypes(),
                        m.getExceptionTypes()), 0);
            }
        }
        for (Constructor<?> c : FairwayChancery.class.getDeclaredConstructors()) {
            Check.yes("public: " + c, Modifier.isPublic(c.getModifiers()));
            ours.put(shape("FairwayChancery", c.getParameterTypes(), c.getExceptionTypes()), 0);
        }
        Check.same("members of the face", ours.size(), due.size());
        Check.same("promises have members", due.size(), 57);
        for (String line : due) {
            Check.yes("the face has " + line, ours.containsKey(line));
        }
    }

    /** The rows "Throws" of each promise, in the order in which Refused takes them from the class. */
    private static void rows(String doc) {
        String[] promises = doc.split("\n## Promise \\d+: ");
        Check.same("promises", promises.length - 1, 57);
        int rows = 0;
        for (int i = 2; i < promises.length; i++) {
            String name = promises[i].substring(0, promises[i].indexOf('\n')).strip();
            List<String> told = new java.util.ArrayList<>();
            Matcher row = Pattern.compile("\nThrows `(\\w+)`").matcher(promises[i]);
            while (row.find()) {
                told.add(row.group(1));
            }
            List<String> ours = new java.util.ArrayList<>();
            for (Class<?> type : Driver.ours(name).getExceptionTypes()) {
                ours.add(type.getSimpleName());
            }
            Check.yes(name + " throws " + told + ", the class " + ours, told.equals(ours));
            rows += told.size();
        }
        Check.yes("rows were found", rows > 100);
    }

    private static String simple(String line) {
        int end = line.indexOf(')') + 1;
        return line.substring(0, end).replace("public ", "").replaceAll(" \\w+([,)])", "$1")
                + line.substring(end).replace(";", "");
    }

    private static String shape(String name, Class<?>[] takes, Class<?>[] throwing) {
        StringBuilder told = new StringBuilder(name).append('(');
        for (int i = 0; i < takes.length; i++) {
            told.append(i > 0 ? ", " : "").append(takes[i].getSimpleName());
        }
        told.append(')');
        for (int i = 0; i < throwing.length; i++) {
            told.append(i > 0 ? ", " : " throws ").append(throwing[i].getSimpleName());
        }
        return told.toString();
    }
}
