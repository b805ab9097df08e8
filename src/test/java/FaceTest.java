import java.io.IOException;
import java.lang.reflect.Constructor;
import java.lang.reflect.Field;
import java.lang.reflect.Method;
import java.lang.reflect.Modifier;
import java.nio.file.Files;
import java.nio.file.Path;
import java.util.ArrayList;
import java.util.Collections;
import java.util.List;
import java.util.regex.Pattern;

/** The public face as the document prints it, and those rules of LANGUAGE.md that can be seen from outside. */
public final class FaceTest {
    private static final String I = "IndexOutOfBoundsException";
    private static final String A = "IllegalArgumentException";
    private static final String S = "IllegalStateException";

    private static final String[] METHODS = {
        "void setDemand(int, int, int) " + A,
        "int value(int) " + A,
        "int worth(int) " + A,
        "int offer(int, int, int, int, int) " + I + " " + A + " " + S,
        "int offers()",
        "int supply(int) " + A,
        "int clearing(int) " + I,
        "int clearingByClock(int) " + I,
        "boolean wouldTake(int, int) " + I,
        "int run(int) " + I + " " + S,
        "int bought(int) " + I,
        "int income(int, int) " + I,
        "int obligation(int, int, int) " + I,
        "int trade(int, int, int, int, int, int) " + I + " " + A + " " + S,
        "int trades()",
        "boolean stress(int, int) " + I,
        "int tell(int, int, int, int) " + I + " " + A,
        "void setPenalty(int, int) " + A,
        "int lack(int, int) " + I,
        "int penalty(int, int) " + I,
        "long penalties()",
    };

    public static void main(String[] args) throws IOException {
        theClassIsPublicAndFinal();
        theMethodsAreTheDocuments();
        theFieldsAreHidden();
        theConstructorsAreTheDocuments();
        nothingForbiddenIsWritten();
        Checks.finish();
    }

    private static void theClassIsPublicAndFinal() {
        int modifiers = CapacityRound.class.getModifiers();
        Checks.due("public", Modifier.isPublic(modifiers), true);
        Checks.due("final", Modifier.isFinal(modifiers), true);
        Checks.due("without a package", CapacityRound.class.getPackageName().isEmpty(), true);
        Checks.dueText("what it extends", CapacityRound.class.getSuperclass().getName(), "java.lang.Object");
        Checks.due("interfaces", CapacityRound.class.getInterfaces().length, 0);
        for (Class<?> inside : CapacityRound.class.getDeclaredClasses()) {
            Checks.due(inside.getName() + " is static", Modifier.isStatic(inside.getModifiers()), true);
            Checks.due(inside.getName() + " is public", Modifier.isPublic(inside.getModifiers()), false);
        }
    }

    private static String face(Method method) {
        StringBuilder text = new StringBuilder();
        text.append(method.getReturnType().getSimpleName()).append(' ').append(method.getName()).append('(');
        String between = "";
        for (Class<?> type : method.getParameterTypes()) {
            text.append(between).append(type.getSimpleName());
            between = ", ";
        }
        text.append(')');
        for (Class<?> thrown : method.getExceptionTypes()) {
            text.append(' ').append(thrown.getSimpleName());
        }
        return text.toString();
    }

    private static void theMethodsAreTheDocuments() {
        List<String> got = new ArrayList<>();
        List<String> publicNames = new ArrayList<>();
        for (Method method : CapacityRound.class.getDeclaredMethods()) {
            if (!Modifier.isPrivate(method.getModifiers())) {
                got.add(face(method));
                publicNames.add(method.getName());
                Checks.due(method.getName() + " is public", Modifier.isPublic(method.getModifiers()), true);
                Checks.due(method.getName() + " is static", Modifier.isStatic(method.getModifiers()), false);
            }
        }
        List<String> want = new ArrayList<>(List.of(METHODS));
        Collections.sort(got);
        Collections.sort(want);
        Checks.dueText("the methods", got.toString(), want.toString());
        for (Method method : CapacityRound.class.getDeclaredMethods()) {
            if (Modifier.isPrivate(method.getModifiers())) {
                Checks.due("private " + method.getName() + " bears a public name",
                        publicNames.contains(method.getName()), false);
            }
        }
    }

    private static void theFieldsAreHidden() {
        for (Field field : CapacityRound.class.getDeclaredFields()) {
            boolean isConstant = field.getName().equals("NONE");
            Checks.due(field.getName() + " is public", Modifier.isPublic(field.getModifiers()), isConstant);
            Checks.due(field.getName() + " is private", Modifier.isPrivate(field.getModifiers()), !isConstant);
            Checks.due(field.getName() + " is static and not final", Modifier.isStatic(field.getModifiers())
                    && !Modifier.isFinal(field.getModifiers()), false);
            if (isConstant) {
                Checks.dueText("NONE", field.getType().getName(), "int");
                Checks.due("NONE is static", Modifier.isStatic(field.getModifiers()), true);
            }
        }
        Checks.due("NONE", CapacityRound.NONE, -1);
    }

    private static void theConstructorsAreTheDocuments() {
        Constructor<?>[] all = CapacityRound.class.getDeclaredConstructors();
        Checks.due("constructors", all.length, 1);
        Checks.due("the constructor is public", Modifier.isPublic(all[0].getModifiers()), true);
        Checks.due("its parameters", all[0].getParameterCount(), 0);
        Checks.due("its exceptions", all[0].getExceptionTypes().length, 0);
    }

    private static void nothingForbiddenIsWritten() throws IOException {
        Path file = Path.of(System.getProperty("project.root", "."), "src/main/java/CapacityRound.java");
        String source = Files.readString(file);
        String[] forbidden = {
            "^import ", "^package ", "->", "::", "\\bcatch\\b", "\\bfinally\\b", "\\bsynchronized\\b",
            "\\bassert\\b", "\\bSystem\\b", "\\bRandom\\b", "Exact\\(", "\\bprotected\\b", "[^\\x00-\\x7e]",
            "\\bthrow (?!new (IllegalStateException|IllegalArgumentException|IndexOutOfBoundsException)\\(\"[^\"]*\"\\);)",
        };
        for (String sign : forbidden) {
            Checks.due("the source has " + sign,
                    Pattern.compile(sign, Pattern.MULTILINE).matcher(source).find(), false);
        }
    }
}
