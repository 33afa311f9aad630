import java.lang.reflect.Constructor;
import java.lang.reflect.Field;
import java.lang.reflect.Method;
import java.lang.reflect.Modifier;
import java.nio.file.Files;
import java.nio.file.Path;
import java.util.HashMap;
import java.util.HashSet;
import java.util.Map;
import java.util.Set;
import java.util.TreeSet;
import java.util.regex.Matcher;
import java.util.regex.Pattern;

/** The face of the class, and those rules of LANGUAGE.md that can be seen without reading. */
public final class LanguageTest {
    private static final String[] FACE = {
        "int row(int,int)", "int lay(int,int,int)", "int at(int,int)", "int tear(int)", "int copy(int,int,int,int,int)",
        "int build(int,int)", "int put(int,int)", "int undo()", "int keep(int)", "int on(int)", "int item(int)",
        "int shape(int)", "int entry(int,int,int)", "int least(int,int)", "int kth(int,int,int)", "int left(int)",
        "int right(int)", "int owns(int)", "long sum()", "int parent(int)", "int depth(int)", "int size(int)",
        "int above(int,int)", "int alike(int,int,int)", "int tree(int)", "int meet(int,int)", "int apart(int,int)",
        "int up(int,int)", "int node(int,int)", "int asked()", "int count(int)", "int finding()", "int findings(int)",
        "long digest()"};
    private static final String[] RULED_OUT = {
        "throw", "throws", "try", "catch", "finally", "synchronized", "assert", "double", "float", "->", "::", "System\\.(?!arraycopy)",
        "Exact", "protected", "hashCode", "equals", "toString", "package", "Thread", "Random", "Object"};

    private static final Set<String> LIBRARY = Set.of(
        "Arrays.fill", "Integer.bitCount", "Math.max", "Math.min", "System.arraycopy");
    private static final int DEEPEST = 8;

    private static final Pattern METHOD_HEAD = Pattern.compile("^( {4}| {8})(?!if|for|while|switch)\\w.*\\) \\{$");

    private LanguageTest() {
    }

    public static void main(String[] args) throws Exception {
        Expect expect = new Expect();
        face(expect);
        classesInside(expect);
        String source = Files.readString(Path.of(args[0]));
        words(expect, withoutComments(source));
        library(expect, withoutComments(source));
        callsGoNotDeep(expect, withoutComments(source).split("\n"));
        methodsAreShort(expect, source.split("\n"));
        objectsAreMadeInConstructors(expect, withoutComments(source).split("\n"));
        expect.end();
    }

    private static void face(Expect expect) {
        Class<?> c = ShapeMinima.class;
        expect.holds("public and final", Modifier.isPublic(c.getModifiers()) && Modifier.isFinal(c.getModifiers()));
        Set<String> methods = new TreeSet<>();
        Set<String> publicNames = new HashSet<>();
        for (Method m : c.getDeclaredMethods()) {
            if (!Modifier.isPrivate(m.getModifiers())) {
                methods.add(told(m));
                publicNames.add(m.getName());
                expect.holds("public: " + m, m.getModifiers() == Modifier.PUBLIC);
            }
        }
        for (Method m : c.getDeclaredMethods()) {
            expect.holds("no public name for " + m, !Modifier.isPrivate(m.getModifiers()) || !publicNames.contains(m.getName()));
        }
        expect.holds("the face is the document's: " + methods, methods.equals(new TreeSet<>(java.util.List.of(FACE))));
        fewParametersAndFields(expect, c);
        Constructor<?>[] constructors = c.getDeclaredConstructors();
        expect.holds("one public constructor", constructors.length == 1 && constructors[0].getParameterCount() == 0
            && Modifier.isPublic(constructors[0].getModifiers()));
        Set<String> constants = new TreeSet<>();
        for (Field f : c.getDeclaredFields()) {
            if (!Modifier.isPrivate(f.getModifiers())) {
                constants.add(f.getName());
            }
            expect.holds("static is final: " + f, !Modifier.isStatic(f.getModifiers()) || Modifier.isFinal(f.getModifiers()));
        }
        expect.holds("constants: " + constants, constants.equals(Set.of("BAD", "STATE", "FINDING", "NONE")));
    }

    private static String told(Method m) {
        StringBuilder s = new StringBuilder(m.getReturnType().getName()).append(' ').append(m.getName()).append('(');
        for (Class<?> p : m.getParameterTypes()) {
            s.append(s.charAt(s.length() - 1) == '(' ? "" : ",").append(p.getName());
        }
        return s.append(')').toString();
    }

    private static void classesInside(Expect expect) {
        Set<String> publicNames = new HashSet<>();
        for (Method m : ShapeMinima.class.getMethods()) {
            publicNames.add(m.getName());
        }
        Class<?>[] inside = ShapeMinima.class.getDeclaredClasses();
        expect.holds("at most twelve classes", inside.length <= 11);
        for (Class<?> c : inside) {
            expect.holds("static: " + c, Modifier.isStatic(c.getModifiers()));
            expect.holds("not public: " + c, (c.getModifiers() & (Modifier.PUBLIC | Modifier.PROTECTED)) == 0);
            fewParametersAndFields(expect, c);
            for (Method m : c.getDeclaredMethods()) {
                expect.holds("no name of the face: " + m, !publicNames.contains(m.getName()));
            }
        }
    }

    private static void fewParametersAndFields(Expect expect, Class<?> c) {
        int fields = 0;
        for (Field f : c.getDeclaredFields()) {
            if (!Modifier.isStatic(f.getModifiers())) {
                fields++;
            }
            expect.holds("static is a number alone: " + f, !Modifier.isStatic(f.getModifiers()) || f.getType() == int.class);
        }
        expect.holds("at most twenty fields: " + c, fields <= 20);
        for (Method m : c.getDeclaredMethods()) {
            expect.holds("at most seven parameters: " + m, m.getParameterCount() <= 7);
        }
    }

    private static String withoutComments(String source) {
        return source.replaceAll("(?s)/\\*.*?\\*/", " ").replaceAll("//[^\n]*", " ");
    }

    private static void words(Expect expect, String code) {
        for (String word : RULED_OUT) {
            boolean plain = Character.isLetter(word.charAt(0)) && !word.contains("\\");
            Matcher m = Pattern.compile(plain ? "\\b" + word + "\\b" : word).matcher(code);
            expect.holds("no " + word, !m.find());
        }
        Matcher imports = Pattern.compile("import ([^;]*);").matcher(code);
        while (imports.find()) {
            expect.holds("import " + imports.group(1), imports.group(1).equals("java.util.Arrays"));
        }
        for (char sign : code.toCharArray()) {
            if (sign > 126) {
                expect.holds("plain signs alone", false);
            }
        }
    }

    /** What is called of a class by its name: the library's, or a class's own inside. */
    private static void library(Expect expect, String code) {
        Set<String> own = new HashSet<>();
        for (Class<?> c : ShapeMinima.class.getDeclaredClasses()) {
            own.add(c.getSimpleName());
        }
        Matcher m = Pattern.compile("\\b([A-Z]\\w*)\\.(\\w+)\\(").matcher(code);
        while (m.find()) {
            String call = m.group(1) + "." + m.group(2);
            expect.holds("in the library's list: " + call, own.contains(m.group(1)) || LIBRARY.contains(call));
        }
    }

    /** Methods of one name count as one, so what is seen may be deeper than what is there, not less. */
    private static void callsGoNotDeep(Expect expect, String[] lines) {
        Pattern named = Pattern.compile("\\b(\\w+)\\(");
        Map<String, Set<String>> calls = new HashMap<>();
        String inside = "";
        for (String line : lines) {
            Matcher m = named.matcher(line);
            if (METHOD_HEAD.matcher(line).matches() && m.find()) {
                inside = m.group(1);
                calls.putIfAbsent(inside, new TreeSet<>());
            }
            while (!inside.isEmpty() && m.find()) {
                calls.get(inside).add(m.group(1));
            }
        }
        expect.holds("the methods were found", calls.size() > FACE.length);
        for (String method : calls.keySet()) {
            expect.holds("at most eight deep, no recursion: " + method, depth(calls, method, 0) <= DEEPEST);
        }
    }

    private static int depth(Map<String, Set<String>> calls, String method, int above) {
        if (!calls.containsKey(method) || above > DEEPEST) {
            return 0;
        }
        int deepest = 0;
        for (String called : calls.get(method)) {
            deepest = Math.max(deepest, depth(calls, called, above + 1));
        }
        return 1 + deepest;
    }

    /** A method's last line is the first brace that stands as far in as its head. */
    private static void methodsAreShort(Expect expect, String[] lines) {
        for (int from = 0; from < lines.length; from++) {
            Matcher m = METHOD_HEAD.matcher(lines[from]);
            if (m.matches()) {
                int to = from;
                while (to < lines.length && !lines[to].equals(m.group(1) + "}")) {
                    to++;
                }
                expect.holds("at most sixty lines: " + lines[from].strip(), to - from < 60);
            }
        }
    }

    /** So that no run of calls can fill the room that all runs share. */
    private static void objectsAreMadeInConstructors(Expect expect, String[] lines) {
        Pattern constructor = Pattern.compile("^ +(public )?[A-Z]\\w*\\(\\) \\{$");
        String inside = "";
        for (String line : lines) {
            if (METHOD_HEAD.matcher(line).matches()) {
                inside = line;
            }
            if (Pattern.compile("\\bnew\\b|\\.clone\\(|copyOf").matcher(line).find()) {
                expect.holds("made in a constructor: " + line.strip(), constructor.matcher(inside).matches());
            }
        }
    }
}
