import java.lang.reflect.Field;
import java.lang.reflect.Member;
import java.lang.reflect.Method;
import java.lang.reflect.Modifier;
import java.nio.file.Files;
import java.nio.file.Path;
import java.util.ArrayList;
import java.util.List;
import java.util.Set;
import java.util.TreeSet;
import java.util.regex.Matcher;
import java.util.regex.Pattern;

/** The rules of LANGUAGE.md that can be looked at from outside, and the document's face. */
public final class LanguageTest {
    private static final String FACE = """
        int away(int,int)
        int binds(int,int,int)
        int both(int,int,int)
        int broker(int)
        int comes(int,int)
        int copy(int,int,int,int,int)
        int count(int)
        int ends(int)
        int fault(int)
        int get(int,int,int)
        int gone()
        int hinders(int,int)
        int home()
        int judged(int)
        int lose(int)
        int more(int)
        int once(int)
        int other(int,int,int)
        int pairs()
        int person(int,int)
        int post(int)
        int put(int,int,int,int)
        int read(int,int)
        int sees()
        int set(int,int)
        int sheet(int,int,int)
        int step(int,int)
        int type(int,int)
        int way(int,int,int)
        int wipe(int)
        int worth()
        int write(int)
        long digest()
        """;

    private static final Check check = new Check();

    public static void main(String[] args) throws Exception {
        faceOfTheDocument(Path.of(System.getProperty("document", "../shared/DOC.md")));
        face();
        classesInside();
        staticFields();
        source(Files.readString(Path.of(System.getProperty("source", "src/main/java/ElevenPaces.java"))));
        check.end();
    }

    /** So that the face above stays the document's own, where that is beside the project. */
    private static void faceOfTheDocument(Path document) throws Exception {
        if (!Files.exists(document)) return;
        Set<String> told = new TreeSet<>();
        Matcher call = Pattern.compile("(?m)^ +public ((?:int|long) \\w+)\\(([^)]*)\\);$").matcher(Files.readString(document));
        while (call.find()) {
            told.add(call.group(1) + "(" + call.group(2).replaceAll(" \\w+(, )?", ",").replaceAll(",$", "") + ")");
        }
        check.that("'The public face' of the document: " + told, told.equals(new TreeSet<>(List.of(FACE.strip().split("\n")))));
    }

    private static void face() throws Exception {
        Set<String> methods = new TreeSet<>();
        for (Method m : ElevenPaces.class.getDeclaredMethods()) {
            if (Modifier.isPrivate(m.getModifiers())) continue;
            check.that(m + " is public and not static", m.getModifiers() == Modifier.PUBLIC);
            String whole = m.toString().replace("ElevenPaces.", "");
            methods.add(whole.substring(whole.indexOf(' ') + 1));
        }
        check.that("the methods are the document's: " + methods, methods.equals(new TreeSet<>(List.of(FACE.strip().split("\n")))));
        Set<String> constants = new TreeSet<>();
        for (Field f : ElevenPaces.class.getDeclaredFields()) {
            if (!Modifier.isPrivate(f.getModifiers())) constants.add(f.getName() + f.getInt(null));
        }
        check.that("the constants are the document's", constants.equals(Set.of("NONE-1", "BAD-2", "NOT-3", "FULL-4")));
        check.that("public and final", ElevenPaces.class.getModifiers() == (Modifier.PUBLIC | Modifier.FINAL));
        check.that("one constructor", ElevenPaces.class.getDeclaredConstructors().length == 1);
    }

    private static List<Class<?>> all() {
        List<Class<?>> all = new ArrayList<>(List.of(ElevenPaces.class.getDeclaredClasses()));
        all.add(ElevenPaces.class);
        return all;
    }

    private static void classesInside() {
        Set<String> told = new TreeSet<>();
        for (Method m : ElevenPaces.class.getMethods()) told.add(m.getName());
        check.that("at most twelve classes", all().size() <= 12);
        for (Class<?> c : all()) {
            if (c == ElevenPaces.class) continue;
            check.that(c + " is static", Modifier.isStatic(c.getModifiers()));
            check.that(c + " is not in the face", (c.getModifiers() & (Modifier.PUBLIC | Modifier.PROTECTED)) == 0);
            for (Method m : c.getDeclaredMethods()) {
                check.that(m + " has a name of its own", !told.contains(m.getName()));
                check.that(m + " takes at most seven", m.getParameterCount() <= 7);
            }
        }
        for (Method m : ElevenPaces.class.getDeclaredMethods()) {
            boolean hidden = Modifier.isPrivate(m.getModifiers());
            check.that(m + " has a name of its own", !hidden || !told.contains(m.getName()));
        }
    }

    private static void staticFields() {
        for (Class<?> c : all()) {
            int own = 0;
            for (Field f : c.getDeclaredFields()) {
                if (Modifier.isStatic(f.getModifiers())) {
                    check.that(f + " is final", Modifier.isFinal(((Member) f).getModifiers()));
                } else {
                    own++;
                }
            }
            check.that(c + " has at most twenty fields", own <= 20);
        }
    }

    private static void source(String text) {
        String code = text.replaceAll("(?s)/\\*.*?\\*/", " ").replaceAll("//[^\n]*", " ").replaceAll("'(\\\\.|.)'", "' '");
        for (String word : List.of("throw", "throws", "try", "catch", "synchronized", "assert", "package", "->", "::", "Exact",
                "System.out", "Random", "Thread", "nanoTime", "currentTimeMillis", "double", "float", "\"", "\\[\\]\\[\\]")) {
            String edge = Character.isLetter(word.charAt(0)) && !word.equals("Exact") ? "\\b" : "";
            check.that("the program has no " + word, !Pattern.compile(edge + word + edge).matcher(code).find());
        }
        Matcher imports = Pattern.compile("import ([^;]+);").matcher(code);
        while (imports.find()) check.that("import of " + imports.group(1), imports.group(1).equals("java.util.Arrays"));
        Matcher calls = Pattern.compile("\\b(System|Arrays|Math|Integer|Long)\\.(\\w+)").matcher(code);
        while (calls.find()) {
            String call = calls.group(1) + "." + calls.group(2);
            check.that("call of " + call, Set.of("System.arraycopy", "Arrays.fill", "Math.max", "Math.min").contains(call));
        }
        methodsAreShort(code);
        rowsAreMadeInConstructors(code);
    }

    private static void methodsAreShort(String code) {
        Matcher m = Pattern.compile("(?m)^( +)[\\w\\[\\] ]+\\([^)]*\\) \\{$").matcher(code);
        while (m.find()) {
            int end = code.indexOf("\n" + m.group(1) + "}", m.end());
            long lines = code.substring(m.start(), end).lines().count();
            check.that(m.group().strip() + " has " + lines + " lines", lines <= 60);
        }
    }

    /** The room of a run: nothing is made but by constructors and by fields. */
    private static void rowsAreMadeInConstructors(String code) {
        Matcher m = Pattern.compile("(?m)^.*\\bnew\\b.*$").matcher(code);
        while (m.find()) {
            String line = m.group();
            boolean isField = line.matches(" {8}private final [\\w\\[\\]]+ \\w+ = new .*;");
            boolean inConstructor = line.matches(" +\\w+(\\[s\\])? = new .*;");
            check.that("made in a constructor: " + line, isField || inConstructor);
        }
    }
}
