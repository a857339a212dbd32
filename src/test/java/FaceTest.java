import java.io.IOException;
import java.io.UncheckedIOException;
import java.lang.reflect.Constructor;
import java.lang.reflect.Field;
import java.lang.reflect.Method;
import java.lang.reflect.Modifier;
import java.nio.file.Files;
import java.nio.file.Path;
import java.util.Set;
import java.util.TreeSet;
import java.util.regex.Matcher;
import java.util.regex.Pattern;

/** The document's public face, no more and no less, and those rules of the language that show in the text. */
public final class FaceTest {
    private static final Checks CHECKS = new Checks("The face");
    private static final Set<String> METHODS = Set.of(
        "int add(int,int,long)", "int clear(int)", "int size(int)", "int at(int,int)",
        "int hash(int,int,int,int)", "int longHash(int,int,int)",
        "int begin(int,int,int,int,int,int,int,int,int)", "int fill(int)", "long word(int,int)",
        "int tag(int)", "int told(int)", "int seal(int,int,int,int,int,int,int,int)");

    public static void main(String[] args) {
        CHECKS.test("the constants", FaceTest::constants);
        CHECKS.test("the class", FaceTest::theClass);
        CHECKS.test("the methods", FaceTest::methods);
        CHECKS.test("the classes inside", FaceTest::classesInside);
        CHECKS.test("the words of the text", FaceTest::wordsOfTheText);
        CHECKS.end();
    }

    private static void constants() {
        CHECKS.due("NONE", SlowSeal.NONE, -1);
        CHECKS.due("BAD", SlowSeal.BAD, -2);
        CHECKS.due("REFUSED", SlowSeal.REFUSED, -3);
    }

    private static void theClass() {
        CHECKS.dueTrue("public final class", Modifier.isPublic(SlowSeal.class.getModifiers())
            && Modifier.isFinal(SlowSeal.class.getModifiers()));
        Constructor<?>[] constructors = SlowSeal.class.getDeclaredConstructors();
        CHECKS.dueTrue("one public constructor without parameters", constructors.length == 1
            && Modifier.isPublic(constructors[0].getModifiers())
            && constructors[0].getParameterCount() == 0);
        Set<String> open = new TreeSet<>();
        for (Field field : SlowSeal.class.getDeclaredFields()) {
            if (!Modifier.isPrivate(field.getModifiers())) {
                open.add(Modifier.toString(field.getModifiers()) + " " + field.getType() + " " + field.getName());
            }
        }
        CHECKS.dueTrue("the constants alone are open: " + open, open.equals(Set.of(
            "public static final int NONE", "public static final int BAD", "public static final int REFUSED")));
    }

    private static void methods() {
        Set<String> open = new TreeSet<>();
        for (Method method : SlowSeal.class.getDeclaredMethods()) {
            if (Modifier.isPrivate(method.getModifiers())) {
                hidden(method);
            } else {
                open.add(signature(method));
                CHECKS.dueTrue("public and of objects: " + method, method.getModifiers() == Modifier.PUBLIC);
            }
        }
        CHECKS.dueTrue("the methods of the document: " + open, open.equals(METHODS));
    }

    private static void classesInside() {
        for (Class<?> inside : SlowSeal.class.getDeclaredClasses()) {
            CHECKS.dueTrue("static: " + inside, Modifier.isStatic(inside.getModifiers()));
            CHECKS.dueTrue("not open: " + inside, !Modifier.isPublic(inside.getModifiers())
                && !Modifier.isProtected(inside.getModifiers()));
            for (Method method : inside.getDeclaredMethods()) {
                hidden(method);
            }
            fieldsOf(inside);
        }
        fieldsOf(SlowSeal.class);
    }

    private static void hidden(Method method) {
        CHECKS.dueTrue("at most seven parameters: " + method, method.getParameterCount() <= 7);
        CHECKS.dueTrue("no name of a public method: " + method,
            METHODS.stream().noneMatch(open -> open.contains(" " + method.getName() + "(")));
    }

    private static void fieldsOf(Class<?> holder) {
        int count = 0;
        for (Field field : holder.getDeclaredFields()) {
            if (Modifier.isStatic(field.getModifiers())) {
                CHECKS.dueTrue("final: " + field, Modifier.isFinal(field.getModifiers()));
            } else {
                count++;
            }
        }
        CHECKS.dueTrue("at most twenty fields: " + holder, count <= 20);
    }

    private static void wordsOfTheText() {
        String text = theText()
            .replaceAll("(?s)/\\*.*?\\*/", "").replaceAll("//[^\n]*", "");
        Matcher found = Pattern.compile("\\b(throw|throws|try|catch|synchronized|assert|import|package)\\b|->|::")
            .matcher(text);
        CHECKS.dueTrue("no word that the language rules out", !found.find());
    }

    private static String theText() {
        try {
            return Files.readString(Path.of("src/main/java/SlowSeal.java"));
        } catch (IOException thrown) {
            throw new UncheckedIOException(thrown);
        }
    }

    private static String signature(Method method) {
        StringBuilder text = new StringBuilder();
        for (Class<?> type : method.getParameterTypes()) {
            text.append(text.length() == 0 ? "" : ",").append(type.getName());
        }
        return method.getReturnType().getName() + " " + method.getName() + "(" + text + ")";
    }
}
