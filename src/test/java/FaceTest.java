import java.lang.reflect.Constructor;
import java.lang.reflect.Field;
import java.lang.reflect.Member;
import java.lang.reflect.Method;
import java.lang.reflect.Modifier;
import java.nio.file.Files;
import java.nio.file.Path;
import java.util.Set;
import java.util.TreeSet;

/** The public face is that of the document, word for word, and the class shows nothing else. */
public final class FaceTest {
    private static int wrong = 0;

    public static void main(String[] args) throws Exception {
        Set<String> due = new TreeSet<>();
        boolean isInside = false;
        for (String line : Files.readAllLines(Path.of("../shared/DOC.md"))) {
            if (line.startsWith("public final class Diffractory")) {
                isInside = true;
            } else if (line.equals("}")) {
                isInside = false;
            } else if (isInside && line.contains("(")) {
                due.add(withoutNames(line.strip()));
            }
        }
        Set<String> got = new TreeSet<>();
        for (Constructor<?> made : Diffractory.class.getDeclaredConstructors()) {
            got.add("public Diffractory()" + (made.getParameterCount() == 0 ? "" : " with parameters"));
            isHiddenOrPublic(made);
        }
        for (Method method : Diffractory.class.getDeclaredMethods()) {
            isHiddenOrPublic(method);
            if (Modifier.isPublic(method.getModifiers())) {
                got.add(textOf(method));
            }
        }
        for (Field field : Diffractory.class.getDeclaredFields()) {
            is(field + " is private", Modifier.isPrivate(field.getModifiers()));
        }
        int modifiers = Diffractory.class.getModifiers();
        is("the class is public and final", Modifier.isPublic(modifiers) && Modifier.isFinal(modifiers));
        is("the document's face was found", due.size() == 26);
        is("the face is " + got + ", due is " + due, got.equals(due));
        System.out.println(wrong == 0 ? "the face is as due" : wrong + " things are not as due");
        if (wrong != 0) {
            System.exit(1);
        }
    }

    private static void isHiddenOrPublic(Member member) {
        int modifiers = member.getModifiers();
        is(member + " is public or private", Modifier.isPublic(modifiers) || Modifier.isPrivate(modifiers));
    }

    private static void is(String what, boolean holds) {
        if (!holds) {
            wrong++;
            System.out.println("not so: " + what);
        }
    }

    private static String withoutNames(String line) {
        return line.replaceAll("(int|boolean) \\w+(?=[,)])", "$1").replace(";", "");
    }

    private static String textOf(Method method) {
        StringBuilder text = new StringBuilder("public ");
        text.append(method.getReturnType()).append(' ').append(method.getName()).append('(');
        for (int i = 0; i < method.getParameterCount(); i++) {
            text.append(i == 0 ? "" : ", ").append(method.getParameterTypes()[i]);
        }
        text.append(')');
        for (int i = 0; i < method.getExceptionTypes().length; i++) {
            text.append(i == 0 ? " throws " : ", ").append(method.getExceptionTypes()[i].getSimpleName());
        }
        return text.toString();
    }
}
