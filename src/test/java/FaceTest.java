import java.io.IOException;
import java.lang.reflect.Constructor;
import java.lang.reflect.Field;
import java.lang.reflect.Member;
import java.lang.reflect.Method;
import java.lang.reflect.Modifier;
import java.nio.file.Files;
import java.nio.file.Path;
import java.util.Arrays;
import java.util.Set;
import java.util.TreeSet;
import java.util.regex.Matcher;
import java.util.regex.Pattern;

/** The document's face, and those rules of LANGUAGE.md that can be seen from the class and its text. */
public final class FaceTest {
    private static final String[] FACE = {
        "void begin(int,int) IllegalArgumentException",
        "void deal(int,long) IllegalArgumentException IllegalStateException",
        "int spoil(int,int,int) IllegalArgumentException IllegalStateException",
        "int commitment(int,int) IllegalArgumentException IllegalStateException",
        "int share(int,int) IllegalArgumentException IllegalStateException",
        "boolean isRight(int,int,int) IllegalArgumentException IllegalStateException",
        "int complain() IllegalStateException",
        "boolean answer(int,int,int) IllegalArgumentException IllegalStateException",
        "int close(long) IllegalStateException",
        "int key(int,int) IllegalArgumentException IllegalStateException",
        "int round(int) IllegalStateException IllegalArgumentException",
        "int says(int,int) IllegalStateException IllegalArgumentException",
        "boolean offer(int,int,int,int,int) IllegalStateException IllegalArgumentException",
        "int value(int) IllegalStateException IllegalArgumentException",
        "int publish() IllegalStateException UnsupportedOperationException",
        "long ended(int) IllegalArgumentException IllegalStateException",
        "long random(int) IllegalArgumentException IllegalStateException",
        "int about(int) IllegalArgumentException"};
    private static final String[] BANNED = {
        "\\bimport\\b", "\\bpackage\\b", "->", "::", "\\bfinally\\b", "\\bsynchronized\\b", "\\bassert\\b", "\\bnative\\b",
        "\\bprotected\\b", "\\bgetMessage\\b", "Exact\\(", "\\bSystem\\.(?!arraycopy)", "\\bThread\\b", "\\bvar\\b",
        "\\bObject\\b", "Integer\\.M", "Long\\.M", "\\bhashCode\\b", "static \\{"};

    public static void main(String[] args) throws IOException {
        face();
        nothingElseIsSeen();
        noNameTwice();
        text();
        Run.end();
    }

    private static void face() {
        Class<?> owner = BeaconRing.class;
        Run.check(Modifier.isPublic(owner.getModifiers()) && Modifier.isFinal(owner.getModifiers()), "public and final");
        Set<String> seen = new TreeSet<>();
        for (Method method : owner.getDeclaredMethods()) {
            if (Modifier.isPublic(method.getModifiers())) {
                Run.check(!Modifier.isStatic(method.getModifiers()), method.getName() + " is not static");
                seen.add(describe(method));
            }
        }
        Set<String> due = new TreeSet<>(Arrays.asList(FACE));
        Run.check(seen.equals(due), "the public methods are " + seen + ", due are " + due);
        Run.check(BeaconRing.NONE == -1, "NONE is -1");
        Constructor<?>[] constructors = owner.getDeclaredConstructors();
        Run.check(constructors.length == 1 && constructors[0].getParameterCount() == 0
                && Modifier.isPublic(constructors[0].getModifiers()), "one public constructor without parameters");
    }

    private static String describe(Method method) {
        StringBuilder text = new StringBuilder(method.getReturnType().getName()).append(' ').append(method.getName());
        String joined = String.join(",", Arrays.stream(method.getParameterTypes()).map(Class::getName).toList());
        text.append('(').append(joined).append(')');
        for (Class<?> exception : method.getExceptionTypes()) {
            text.append(' ').append(exception.getSimpleName());
        }
        return text.toString();
    }

    private static void nothingElseIsSeen() {
        for (Method method : BeaconRing.class.getDeclaredMethods()) {
            Run.check(isPublicOrPrivate(method), method.getName() + " is public or private");
        }
        for (Field field : BeaconRing.class.getDeclaredFields()) {
            boolean isNone = field.getName().equals("NONE");
            Run.check(Modifier.isPublic(field.getModifiers()) == isNone && isPublicOrPrivate(field),
                    field.getName() + " is seen as the document says");
        }
        for (Class<?> inside : BeaconRing.class.getDeclaredClasses()) {
            Run.check(Modifier.isStatic(inside.getModifiers()) && !Modifier.isPublic(inside.getModifiers()),
                    inside.getName() + " is static and not public");
            Run.check(inside.getDeclaredFields().length <= 20, inside.getName() + " has few fields");
        }
    }

    private static boolean isPublicOrPrivate(Member member) {
        return Modifier.isPublic(member.getModifiers()) || Modifier.isPrivate(member.getModifiers());
    }

    private static void noNameTwice() {
        Set<String> names = new TreeSet<>();
        for (Method method : BeaconRing.class.getDeclaredMethods()) {
            Run.check(names.add(method.getName()), method.getName() + " is a name of one method");
        }
        for (Class<?> inside : BeaconRing.class.getDeclaredClasses()) {
            for (Method method : inside.getDeclaredMethods()) {
                Run.check(!names.contains(method.getName()), method.getName() + " is no name of two classes");
            }
        }
    }

    private static void text() throws IOException {
        String source = Files.readString(Path.of("src/main/java/BeaconRing.java"));
        String code = source.replaceAll("(?s)/\\*.*?\\*/", "").replaceAll("//[^\n]*", "").replaceAll("\"[^\"\n]*\"", "\"\"");
        for (String banned : BANNED) {
            Matcher matcher = Pattern.compile(banned).matcher(code);
            Run.check(!matcher.find(), "the text does not hold " + banned);
        }
        Run.check(source.chars().allMatch(c -> c < 128), "the text is plain");
    }
}
