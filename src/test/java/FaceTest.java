import java.io.IOException;
import java.lang.reflect.Constructor;
import java.lang.reflect.Field;
import java.lang.reflect.Method;
import java.lang.reflect.Modifier;
import java.nio.file.Files;
import java.nio.file.Path;
import java.util.Arrays;
import java.util.Set;
import java.util.TreeSet;
import java.util.regex.Matcher;
import java.util.regex.Pattern;

/** The public face of the document, and those rules of LANGUAGE.md that can be read off the class. */
public final class FaceTest {
    private static final Checks CHECKS = new Checks();
    private static final String[] FACE = {
        "int write(int,long)", "int wipe()", "int fault()", "int day()", "int about(int)", "int where(int,int)",
        "int news(int,int)", "int told(int,int)", "int left(int,int)", "int may(int,int)", "int tell(int,int)",
        "int hour()", "int undo()", "int judge(int,int,int)", "int fewest(int,int)", "int planAt(int,int,int)",
        "int most(int)", "int spent(int,int)", "int duel(int,int)", "long chance(int,int,int,int,boolean)",
        "int sight(int,int,boolean)", "int unsee()", "int rows(int)", "int keep(int)", "int again(int)",
    };
    private static final String[] RULED_OUT = {
        "throw", "throws", "try", "catch", "synchronized", "assert", "->", "::", "@", "System.out",
        "currentTimeMillis", "nanoTime", "Random", "Thread", "protected", "goto", "native",
    };
    private static final Pattern HEADER = Pattern.compile(
        "( +)(?:public|private) (?:static )?((?:int|long|boolean|void) )?\\w+\\(.*\\) \\{");

    public static void main(String[] args) throws IOException {
        constants();
        methods();
        otherMembers();
        classesInside();
        String text = Files.readString(Path.of("src/main/java/ToldNineTimes.java"));
        source(text);
        bodies(text.split("\n"));
        CHECKS.end();
    }

    private static void constants() {
        CHECKS.due("UNKNOWN", ToldNineTimes.UNKNOWN, -1);
        CHECKS.due("BAD", ToldNineTimes.BAD, -2);
        CHECKS.due("LATE", ToldNineTimes.LATE, -3);
        CHECKS.due("FULL", ToldNineTimes.FULL, -4);
        CHECKS.due("NONE", ToldNineTimes.NONE, -9);
    }

    private static void methods() {
        Set<String> found = new TreeSet<>();
        for (Method method : ToldNineTimes.class.getDeclaredMethods()) {
            if (!Modifier.isPrivate(method.getModifiers())) {
                found.add(signature(method));
                CHECKS.dueAll(method + " is public", Modifier.isPublic(method.getModifiers()));
            }
        }
        CHECKS.dueAll("the methods are " + found, found.equals(new TreeSet<>(Arrays.asList(FACE))));
        CHECKS.dueAll("public", Modifier.isPublic(ToldNineTimes.class.getModifiers()));
        CHECKS.dueAll("final", Modifier.isFinal(ToldNineTimes.class.getModifiers()));
    }

    private static String signature(Method method) {
        StringBuilder text = new StringBuilder(method.getReturnType().getName());
        text.append(' ').append(method.getName()).append('(');
        for (Class<?> type : method.getParameterTypes()) {
            text.append(text.charAt(text.length() - 1) == '(' ? "" : ",").append(type.getName());
        }
        return text.append(')').toString();
    }

    private static void otherMembers() {
        Set<String> open = new TreeSet<>();
        for (Field field : ToldNineTimes.class.getDeclaredFields()) {
            if (!Modifier.isPrivate(field.getModifiers())) {
                open.add(field.getName());
            }
        }
        Set<String> due = new TreeSet<>(Arrays.asList("UNKNOWN", "BAD", "LATE", "FULL", "NONE"));
        CHECKS.dueAll("open fields " + open, open.equals(due));
        Constructor<?>[] constructors = ToldNineTimes.class.getDeclaredConstructors();
        CHECKS.due("constructors", constructors.length, 1);
        CHECKS.dueAll("a public one", Modifier.isPublic(constructors[0].getModifiers()));
        CHECKS.due("without parameters", constructors[0].getParameterCount(), 0);
    }

    private static void classesInside() {
        Set<String> face = new TreeSet<>();
        for (String method : FACE) {
            face.add(method.substring(method.indexOf(' ') + 1, method.indexOf('(')));
        }
        Class<?>[] inside = ToldNineTimes.class.getDeclaredClasses();
        CHECKS.dueAll("some twelve classes at most", inside.length < 12);
        for (Class<?> one : inside) {
            CHECKS.dueAll(one + " is static", Modifier.isStatic(one.getModifiers()));
            for (Method method : one.getDeclaredMethods()) {
                CHECKS.dueAll(method + " has a name of its own", !face.contains(method.getName()));
            }
        }
        for (Method method : ToldNineTimes.class.getDeclaredMethods()) {
            boolean own = Modifier.isPublic(method.getModifiers()) || !face.contains(method.getName());
            CHECKS.dueAll(method + " has a name of its own", own);
            CHECKS.dueAll(method + " has seven parameters at most", method.getParameterCount() <= 7);
        }
    }

    private static void source(String text) {
        String code = text.replaceAll("(?s)/\\*.*?\\*/", "").replaceAll("//[^\n]*", "");
        for (String word : RULED_OUT) {
            String edge = Character.isLetter(word.charAt(0)) ? "\\b" : "";
            boolean found = Pattern.compile(edge + Pattern.quote(word) + edge).matcher(code).find();
            CHECKS.dueAll("no " + word, !found);
        }
        for (String line : code.split("\n")) {
            if (line.startsWith("import")) {
                CHECKS.dueAll(line, line.equals("import java.util.Arrays;"));
            }
        }
        CHECKS.dueAll("signs 1 to 127", text.chars().allMatch(c -> c > 0 && c < 128));
        CHECKS.dueAll("no package", !code.contains("package "));
    }

    /** Rules 11 and 12: methods stay short, and what is made is made by constructors: no call makes an object. */
    private static void bodies(String[] lines) {
        int methods = 0;
        for (int i = 0; i < lines.length; i++) {
            Matcher header = HEADER.matcher(lines[i]);
            if (header.matches()) {
                methods++;
                boolean constructor = header.group(2) == null;
                int end = i;
                while (!lines[end].equals(header.group(1) + "}")) {
                    end++;
                    boolean makes = lines[end].matches(".*\\bnew\\b.*") && !lines[end].strip().startsWith("/");
                    CHECKS.dueAll("made in a call: " + lines[end], constructor || !makes);
                }
                CHECKS.dueAll("sixty lines at most: " + lines[i], end - i < 60);
            }
        }
        CHECKS.dueAll("methods were found", methods > FACE.length);
    }
}
