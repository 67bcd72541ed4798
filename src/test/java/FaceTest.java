import java.io.IOException;
import java.lang.reflect.Constructor;
import java.lang.reflect.Field;
import java.lang.reflect.Method;
import java.lang.reflect.Modifier;
import java.nio.file.Files;
import java.nio.file.Path;
import java.util.ArrayList;
import java.util.Arrays;
import java.util.Collections;
import java.util.List;
import java.util.regex.Matcher;
import java.util.regex.Pattern;

/** The class has just the document's face, and keeps to what can be looked up of LANGUAGE.md. */
final class FaceTest {
    private static final String[] FACE = {
        "int track(int) IllegalArgumentException IllegalStateException",
        "int speed(int) IllegalArgumentException",
        "int write(int,int) IndexOutOfBoundsException IllegalArgumentException IllegalStateException",
        "int mark(int) IndexOutOfBoundsException IllegalStateException",
        "int sector(int,int,int,int,boolean) IndexOutOfBoundsException IllegalArgumentException IllegalStateException",
        "boolean weak(int,int,boolean) IndexOutOfBoundsException",
        "int dirt(int,int,int) IndexOutOfBoundsException IllegalArgumentException",
        "int clean(int) IndexOutOfBoundsException",
        "int read(int) IndexOutOfBoundsException IllegalStateException",
        "int copy(int,int,boolean) IndexOutOfBoundsException IllegalArgumentException IllegalStateException",
        "int ofCell(int,int,int) IndexOutOfBoundsException IllegalArgumentException",
        "int ofTrack(int,int) IndexOutOfBoundsException IllegalArgumentException",
        "int vote(int,int) IndexOutOfBoundsException",
        "int turn(int,int,boolean) IndexOutOfBoundsException",
        "double period(int,int) IndexOutOfBoundsException",
        "int ofSector(int,int,int) IndexOutOfBoundsException IllegalArgumentException",
        "int chain(int,int) IndexOutOfBoundsException IllegalArgumentException",
        "int many(int) IllegalArgumentException",
        "double sure(int) IndexOutOfBoundsException",
        "int plainLong(int) IndexOutOfBoundsException",
        "int wouldLose(int) IndexOutOfBoundsException",
        "int goodBy(int,int) IndexOutOfBoundsException IllegalArgumentException",
        "long digest()",
    };
    private static final String[] STATIC_TYPES = {"int", "long", "boolean", "char", "String", "int[]", "long[]", "char[]", "byte[]"};
    private static final String[] LEFT_OUT = {
        "->", "::", "import", "package", "try", "catch", "finally", "synchronized", "assert", "Exact", "rint", "Object", "System",
        "static \\{", "\"\\s*\\+", "\\+\\s*\"",
    };
    private static final String[] LIBRARY = {"Math.max", "Math.min", "Math.floorMod"};

    private static String told(Method method) {
        StringBuilder made = new StringBuilder(method.getReturnType().getSimpleName());
        made.append(' ').append(method.getName()).append('(');
        for (int i = 0; i < method.getParameterCount(); i++) {
            made.append(i == 0 ? "" : ",").append(method.getParameterTypes()[i].getSimpleName());
        }
        made.append(')');
        for (Class<?> thrown : method.getExceptionTypes()) {
            made.append(' ').append(thrown.getSimpleName());
        }
        return made.toString();
    }

    private static void faceIsTheDocuments() {
        List<String> got = new ArrayList<>();
        for (Method method : FluxBench.class.getDeclaredMethods()) {
            if (Modifier.isPublic(method.getModifiers())) {
                got.add(told(method));
                Check.same(method + " is not static", Modifier.isStatic(method.getModifiers()), false);
            } else {
                Check.same(method + " is private", Modifier.isPrivate(method.getModifiers()), true);
            }
        }
        List<String> due = new ArrayList<>(Arrays.asList(FACE));
        Collections.sort(got);
        Collections.sort(due);
        Check.sameText("the face", got.toString(), due.toString());
        Check.same("the class is public and final", FluxBench.class.getModifiers() == (Modifier.PUBLIC | Modifier.FINAL), true);
        Constructor<?>[] made = FluxBench.class.getDeclaredConstructors();
        Check.same("one constructor", made.length, 1);
        Check.same("without arguments", made[0].getParameterCount(), 0);
        Check.same("which is public", Modifier.isPublic(made[0].getModifiers()), true);
        for (Field field : FluxBench.class.getDeclaredFields()) {
            Check.same(field + " is private", Modifier.isPrivate(field.getModifiers()), true);
        }
    }

    private static void classesKeepTheRules() {
        List<Class<?>> all = new ArrayList<>(Arrays.asList(FluxBench.class.getDeclaredClasses()));
        all.add(FluxBench.class);
        Check.same("at most some twelve classes", all.size() <= 12, true);
        for (Class<?> one : all) {
            boolean isOuter = one == FluxBench.class;
            Check.same(one + " is static", isOuter || Modifier.isStatic(one.getModifiers()), true);
            Check.same(one + " is not public", isOuter || !Modifier.isPublic(one.getModifiers()), true);
            fieldsKeepTheRules(one);
            for (Method method : one.getDeclaredMethods()) {
                boolean isNamedLikeTheFace = false;
                for (String face : FACE) {
                    isNamedLikeTheFace |= face.contains(" " + method.getName() + "(");
                }
                Check.same(method + " bears a name of its own", isOuter && Modifier.isPublic(method.getModifiers()) || !isNamedLikeTheFace, true);
                Check.same(method + " has at most seven parameters", method.getParameterCount() <= 7, true);
            }
        }
    }

    private static void fieldsKeepTheRules(Class<?> one) {
        int own = 0;
        for (Field field : one.getDeclaredFields()) {
            if (!Modifier.isStatic(field.getModifiers())) {
                own++;
                continue;
            }
            Check.same(field + " is final", Modifier.isFinal(field.getModifiers()), true);
            boolean isLeft = Arrays.asList(STATIC_TYPES).contains(field.getType().getSimpleName());
            Check.same(field + " is of a kind that rule 5 leaves", isLeft, true);
        }
        Check.same(one + " has at most twenty fields", own <= 20, true);
    }

    private static void sourceKeepsTheRules() throws IOException {
        Path path = Path.of(System.getProperty("root", "."), "src/main/java/FluxBench.java");
        String text = Files.readString(path).replaceAll("(?s)/\\*.*?\\*/", "").replaceAll("//[^\n]*", "");
        for (String word : LEFT_OUT) {
            String pattern = word.matches("\\w+") ? "\\b\\w*" + word + "\\b" : word;
            Check.same("the source is without " + word, Pattern.compile(pattern).matcher(text).find(), false);
        }
        Matcher calls = Pattern.compile("\\b(Math|Integer|Long|Arrays|List|String)\\.\\w+").matcher(text);
        while (calls.find()) {
            Check.same("the library's " + calls.group(), Arrays.asList(LIBRARY).contains(calls.group()), true);
        }
        for (int i = 0; i < text.length(); i++) {
            if (text.charAt(i) > 126) {
                Check.same("a sign at " + i, text.charAt(i), ' ');
            }
        }
    }

    public static void main(String[] args) throws IOException {
        faceIsTheDocuments();
        classesKeepTheRules();
        sourceKeepsTheRules();
        Check.end("FaceTest");
    }
}
