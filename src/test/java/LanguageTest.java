import java.io.IOException;
import java.lang.reflect.Constructor;
import java.lang.reflect.Field;
import java.lang.reflect.Method;
import java.lang.reflect.Modifier;
import java.nio.charset.StandardCharsets;
import java.nio.file.Files;
import java.nio.file.Path;
import java.util.ArrayList;
import java.util.HashSet;
import java.util.List;
import java.util.Set;
import java.util.TreeSet;
import java.util.regex.Matcher;
import java.util.regex.Pattern;

/** The rules of LANGUAGE.md that can be looked at from outside; run from the root of the project. */
public final class LanguageTest {
    private static final String[] FACE = {"feed(int)", "coast()", "fault()", "told(int)", "cell(int,int)",
        "tower(int,int)", "player(int,int)", "boat(int,int)", "hour(int)", "sit(int,int)", "rest(int)",
        "sleep(int,boolean)", "turn(int,int)", "send(int)", "drift(int)", "undo()", "sea(int,int,int)",
        "deepest(int,int,int)", "comes(int)", "seats(int,int,int,int)", "leave(int)", "share(int,int)",
        "calm(int,int)", "mark(int,int,int)", "look()", "see(int,int,int)", "write(int,int)", "tear()", "judge()",
        "seed(int)", "keep(int)", "goBack(int)"};
    private static final Check check = new Check("LanguageTest");

    public static void main(String[] args) throws IOException {
        String source = Files.readString(Path.of("src/main/java/GurdyTide.java"), StandardCharsets.ISO_8859_1);
        constants();
        face();
        insideClasses();
        words(bare(source));
        library(bare(source));
        nothingMadeByCalls(bare(source));
        methodLengths(source);
        check.end();
    }

    private static void constants() {
        check.due("NONE", GurdyTide.NONE, -1);
        check.due("UNKNOWN", GurdyTide.UNKNOWN, -1000000001);
        check.due("OUTSIDE", GurdyTide.OUTSIDE, -1000000002);
        check.due("NOT", GurdyTide.NOT, -1000000003);
        check.due("FULL", GurdyTide.FULL, -1000000004);
    }

    private static void face() {
        check.holds("public and final", Modifier.isPublic(GurdyTide.class.getModifiers())
                && Modifier.isFinal(GurdyTide.class.getModifiers()));
        Set<String> methods = new TreeSet<>();
        for (Method m : GurdyTide.class.getDeclaredMethods()) {
            if (Modifier.isPublic(m.getModifiers())) {
                methods.add(signature(m));
                check.holds(m + " answers an int", m.getReturnType() == int.class);
            } else {
                check.holds(m + " is private", Modifier.isPrivate(m.getModifiers()) || m.isSynthetic());
            }
        }
        check.holds("the face: " + methods, methods.equals(new TreeSet<>(List.of(FACE))));
        Set<String> constants = new TreeSet<>();
        for (Field f : GurdyTide.class.getDeclaredFields()) {
            if (Modifier.isPublic(f.getModifiers())) {
                constants.add(f.getName());
            } else {
                check.holds(f + " is private", Modifier.isPrivate(f.getModifiers()));
            }
        }
        check.holds("the constants: " + constants,
                constants.equals(Set.of("NONE", "UNKNOWN", "OUTSIDE", "NOT", "FULL")));
        Constructor<?>[] constructors = GurdyTide.class.getDeclaredConstructors();
        check.holds("one constructor, public", constructors.length == 1
                && Modifier.isPublic(constructors[0].getModifiers()) && constructors[0].getParameterCount() == 0);
    }

    private static String signature(Method m) {
        StringBuilder s = new StringBuilder(m.getName()).append('(');
        for (Class<?> p : m.getParameterTypes()) {
            s.append(s.charAt(s.length() - 1) == '(' ? "" : ",").append(p.getName());
        }
        return s.append(')').toString();
    }

    private static void insideClasses() {
        Set<String> taken = new HashSet<>();
        for (String s : FACE) {
            taken.add(s.substring(0, s.indexOf('(')));
        }
        List<Class<?>> all = new ArrayList<>(List.of(GurdyTide.class.getDeclaredClasses()));
        check.holds("twelve classes at most", all.size() < 12);
        for (Class<?> k : all) {
            check.holds(k + " is static, not public", Modifier.isStatic(k.getModifiers())
                    && !Modifier.isPublic(k.getModifiers()) && !Modifier.isProtected(k.getModifiers()));
            for (Method m : k.getDeclaredMethods()) {
                check.holds(m + " bears no name of the face", !taken.contains(m.getName()));
            }
        }
        all.add(GurdyTide.class);
        for (Class<?> k : all) {
            int fields = 0;
            for (Field f : k.getDeclaredFields()) {
                fields += Modifier.isStatic(f.getModifiers()) ? 0 : 1;
                check.holds(f + ": static is final", !Modifier.isStatic(f.getModifiers())
                        || Modifier.isFinal(f.getModifiers()));
            }
            check.holds(k + ": twenty fields at most", fields <= 20);
            for (Method m : k.getDeclaredMethods()) {
                check.holds(m + ": seven parameters at most", m.getParameterCount() <= 7);
            }
        }
    }

    /** The source without comments, texts and letters. */
    private static String bare(String source) {
        return source.replaceAll("(?s)/\\*.*?\\*/", " ").replaceAll("//[^\n]*", " ")
                .replaceAll("\"(\\\\.|[^\"\\\\])*\"", "\"\"").replaceAll("'(\\\\.|[^'\\\\])'", "' '");
    }

    private static void words(String bare) {
        for (String word : new String[] {"throw", "throws", "try", "catch", "finally", "synchronized", "assert",
            "package", "Exact", "Exception", "Object", "hashCode", "toString", "equals", "System\\.(?!arraycopy)",
            "Random", "Thread", "native", "volatile", "transient", "float", "double", "var"}) {
            Matcher m = Pattern.compile(word.endsWith(")") ? word : "\\b\\w*" + word + "\\b").matcher(bare);
            boolean found = false;
            while (m.find()) {
                found |= m.group().equals(word) || word.equals("Exact") || word.equals("Exception")
                        || word.endsWith(")");
            }
            check.holds("no " + word, !found);
        }
        check.holds("no lambda, no arrow", !bare.contains("->"));
        check.holds("no method reference", !bare.contains("::"));
        Matcher imports = Pattern.compile("import ([^;]*);").matcher(bare);
        while (imports.find()) {
            check.holds("import " + imports.group(1), imports.group(1).equals("java.util.Arrays"));
        }
        check.holds("signs 1 to 127", bare.chars().allMatch(i -> i >= 1 && i <= 127));
    }

    /** Rule 4: 'only what stands here'; a constant of the library (Integer.MAX_VALUE) does not stand there. */
    private static void library(String bare) {
        Set<String> known = Set.of("Arrays.fill", "Math.max", "Math.min", "Math.abs", "System.arraycopy");
        Set<String> own = new HashSet<>(Set.of("GurdyTide"));
        for (Class<?> k : GurdyTide.class.getDeclaredClasses()) {
            own.add(k.getSimpleName());
        }
        Matcher types = Pattern.compile("(?<!java\\.util\\.)\\b([A-Z]\\w*[a-z]\\w*)(\\.\\w+)?").matcher(bare);
        while (types.find()) {
            check.holds("the library's " + types.group(), own.contains(types.group(1)) || known.contains(types.group()));
        }
    }

    /** Rule 12: rows are made with the object and used again, so no call makes anything. */
    private static void nothingMadeByCalls(String bare) {
        boolean inConstructor = false;
        int found = 0;
        for (String line : bare.split("\n")) {
            if (beginsMethod(line)) {
                inConstructor = line.matches(" *(public |private )?[A-Z]\\w*\\(.*");
            }
            if (line.matches(".*\\bnew\\b.*")) {
                found++;
                check.holds("made with the object:" + line, inConstructor || line.matches(" *(private|final) .*"));
            }
        }
        check.holds("things are made", found > 0);
    }

    private static boolean beginsMethod(String line) {
        return line.matches("( {4}| {8})(?!(if|for|while|switch|do|else)\\b)[A-Za-z].*\\) \\{");
    }

    /** Rule 11; a method ends where a brace stands as far in as its own first line. */
    private static void methodLengths(String source) {
        int began = 0;
        int nth = 0;
        int found = 0;
        String end = "";
        for (String line : source.split("\n")) {
            nth++;
            if (beginsMethod(line)) {
                began = nth;
                end = line.replaceAll("[^ ].*", "}");
            }
            if (line.equals(end) && began != 0) {
                check.holds("the method at line " + began + " is short", nth - began < 60);
                found++;
                began = 0;
            }
        }
        int due = 0;
        for (Class<?> k : GurdyTide.class.getDeclaredClasses()) {
            due += k.getDeclaredMethods().length;
        }
        check.due("methods found, with the constructors that are written out", found,
                due + GurdyTide.class.getDeclaredMethods().length + 2);
    }
}
