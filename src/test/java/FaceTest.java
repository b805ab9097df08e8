import java.io.IOException;
import java.lang.reflect.Constructor;
import java.lang.reflect.Field;
import java.lang.reflect.Method;
import java.lang.reflect.Modifier;
import java.nio.file.Files;
import java.nio.file.Path;
import java.util.ArrayList;
import java.util.Collections;
import java.util.List;
import java.util.regex.Matcher;
import java.util.regex.Pattern;

/** The public face as the document prints it, and those rules of LANGUAGE.md that can be seen from outside. */
public final class FaceTest {
    private static final String I = "IndexOutOfBoundsException";
    private static final String A = "IllegalArgumentException";
    private static final String S = "IllegalStateException";

    private static final String[] METHODS = {
        "void setDemand(int lower, int upper, int top) " + A,
        "int value(int unit) " + A,
        "int worth(int amount) " + A,
        "int offer(int party, int capacity, int derating, int exit, int term) " + I + " " + A + " " + S,
        "int offers()",
        "int supply(int price) " + A,
        "int clearing(int year) " + I,
        "int clearingByClock(int year) " + I,
        "boolean wouldTake(int offer, int year) " + I,
        "int run(int year) " + I + " " + S,
        "int bought(int year) " + I,
        "int income(int party, int year) " + I,
        "int obligation(int party, int year, int hour) " + I,
        "int trade(int party, int other, int year, int from, int to, int amount) " + I + " " + A + " " + S,
        "int trades()",
        "boolean stress(int year, int hour) " + I,
        "int tell(int party, int year, int hour, int output) " + I + " " + A,
        "void setPenalty(int rate, int cap) " + A,
        "int lack(int party, int year) " + I,
        "int penalty(int party, int year) " + I,
        "long penalties()",
    };

    /** The calls in the document's order, and what it says ahead of some of them. */
    private static final String[] ORDER = {
        "NONE", "CapacityRound",
        "---- demand and offers", "setDemand", "value", "worth", "offer", "offers", "supply",
        "---- auctions", "clearing", "clearingByClock", "wouldTake", "run", "bought", "income",
        "---- obligations and trades", "obligation", "trade", "trades",
        "---- stress and penalties", "stress", "tell", "setPenalty", "lack", "penalty", "penalties",
    };

    public static void main(String[] args) throws IOException {
        theClassIsPublicAndFinal();
        theMethodsAreTheDocuments();
        theFieldsAreHidden();
        theConstructorsAreTheDocuments();
        theClassesAreSmall();
        String source = Files.readString(
                Path.of(System.getProperty("project.root", "."), "src/main/java/CapacityRound.java"));
        theArgumentsBearTheDocumentsNames(source);
        theCallsStandInTheDocumentsOrder(source);
        nothingForbiddenIsWritten(source);
        noOtherLibraryIsUsed(source);
        Checks.finish();
    }

    private static void theClassIsPublicAndFinal() {
        int modifiers = CapacityRound.class.getModifiers();
        Checks.due("public", Modifier.isPublic(modifiers), true);
        Checks.due("final", Modifier.isFinal(modifiers), true);
        Checks.due("without a package", CapacityRound.class.getPackageName().isEmpty(), true);
        Checks.dueText("what it extends", CapacityRound.class.getSuperclass().getName(), "java.lang.Object");
        Checks.due("interfaces", CapacityRound.class.getInterfaces().length, 0);
        for (Class<?> inside : CapacityRound.class.getDeclaredClasses()) {
            Checks.due(inside.getName() + " is static", Modifier.isStatic(inside.getModifiers()), true);
            Checks.due(inside.getName() + " is public", Modifier.isPublic(inside.getModifiers()), false);
        }
    }

    private static String face(Method method) {
        StringBuilder text = new StringBuilder();
        text.append(method.getReturnType().getSimpleName()).append(' ').append(method.getName()).append('(');
        String between = "";
        for (Class<?> type : method.getParameterTypes()) {
            text.append(between).append(type.getSimpleName());
            between = ", ";
        }
        text.append(')');
        for (Class<?> thrown : method.getExceptionTypes()) {
            text.append(' ').append(thrown.getSimpleName());
        }
        return text.toString();
    }

    private static void theMethodsAreTheDocuments() {
        List<String> got = new ArrayList<>();
        List<String> publicNames = new ArrayList<>();
        for (Method method : CapacityRound.class.getDeclaredMethods()) {
            if (!Modifier.isPrivate(method.getModifiers())) {
                got.add(face(method));
                publicNames.add(method.getName());
                Checks.due(method.getName() + " is public", Modifier.isPublic(method.getModifiers()), true);
                Checks.due(method.getName() + " is static", Modifier.isStatic(method.getModifiers()), false);
            }
        }
        List<String> want = new ArrayList<>();
        for (String method : METHODS) {
            want.add(method.replaceAll("int \\w+([,)])", "int$1"));
        }
        Collections.sort(got);
        Collections.sort(want);
        Checks.dueText("the methods", got.toString(), want.toString());
        for (Method method : CapacityRound.class.getDeclaredMethods()) {
            if (Modifier.isPrivate(method.getModifiers())) {
                Checks.due("private " + method.getName() + " bears a public name",
                        publicNames.contains(method.getName()), false);
            }
        }
    }

    private static void theFieldsAreHidden() {
        for (Field field : CapacityRound.class.getDeclaredFields()) {
            boolean isConstant = field.getName().equals("NONE");
            Checks.due(field.getName() + " is public", Modifier.isPublic(field.getModifiers()), isConstant);
            Checks.due(field.getName() + " is private", Modifier.isPrivate(field.getModifiers()), !isConstant);
            Checks.due(field.getName() + " is static and not final", Modifier.isStatic(field.getModifiers())
                    && !Modifier.isFinal(field.getModifiers()), false);
            if (isConstant) {
                Checks.dueText("NONE", field.getType().getName(), "int");
                Checks.due("NONE is static", Modifier.isStatic(field.getModifiers()), true);
            }
        }
        Checks.due("NONE", CapacityRound.NONE, -1);
    }

    private static void theConstructorsAreTheDocuments() {
        Constructor<?>[] all = CapacityRound.class.getDeclaredConstructors();
        Checks.due("constructors", all.length, 1);
        Checks.due("the constructor is public", Modifier.isPublic(all[0].getModifiers()), true);
        Checks.due("its parameters", all[0].getParameterCount(), 0);
        Checks.due("its exceptions", all[0].getExceptionTypes().length, 0);
    }

    /** LANGUAGE.md, rules 5 and 11, of the class and of those inside it. */
    private static void theClassesAreSmall() {
        List<Class<?>> all = new ArrayList<>(List.of(CapacityRound.class.getDeclaredClasses()));
        all.add(CapacityRound.class);
        Checks.due("at most twelve classes", all.size() <= 12, true);
        for (Class<?> one : all) {
            int kept = 0;
            for (Field field : one.getDeclaredFields()) {
                boolean isStatic = Modifier.isStatic(field.getModifiers());
                kept += isStatic ? 0 : 1;
                Checks.due(field + " is a constant, if it is static",
                        !isStatic || Modifier.isFinal(field.getModifiers()) && field.getType() == int.class, true);
            }
            Checks.due(one.getName() + " has at most twenty fields", kept <= 20, true);
            for (Method method : one.getDeclaredMethods()) {
                Checks.due(method.getName() + " has at most seven parameters", method.getParameterCount() <= 7, true);
            }
        }
    }

    /** Reflection does not see the names of arguments. */
    private static void theArgumentsBearTheDocumentsNames(String source) {
        for (String method : METHODS) {
            String call = "    public " + method.substring(0, method.indexOf(')') + 1);
            Checks.due("the source has" + call, source.contains(call), true);
        }
    }

    private static void theCallsStandInTheDocumentsOrder(String source) {
        Matcher member = Pattern.compile(
                "^    (?:public (?:static final )?(?:\\w+ )?(\\w+)(?:\\(| = )|// (---- .*)$)", Pattern.MULTILINE)
                .matcher(source);
        for (String want : ORDER) {
            boolean found = member.find();
            Checks.due("there is more of the face ahead of " + want, found, true);
            if (found) {
                Checks.dueText("what stands in the source", member.group(member.group(1) == null ? 2 : 1), want);
            }
        }
    }

    /** LANGUAGE.md, rule 4: of what it lists, the class needs two functions of Math alone. */
    private static void noOtherLibraryIsUsed(String source) {
        List<String> allowed = List.of("Math.min", "Math.max", "Demand.MOST_UNITS");
        Matcher used = Pattern.compile("\\b[A-Z]\\w*\\.\\w+").matcher(source);
        while (used.find()) {
            Checks.due(used.group() + " is allowed", allowed.contains(used.group()), true);
        }
        Matcher made = Pattern.compile("\\bnew (\\w+)[\\[(<]").matcher(source);
        List<String> makes = List.of("Demand", "Queue", "int", "boolean", I, A, S);
        while (made.find()) {
            Checks.due("new " + made.group(1) + " is allowed", makes.contains(made.group(1)), true);
        }
    }

    private static void nothingForbiddenIsWritten(String source) {
        String[] forbidden = {
            "^import ", "^package ", "->", "::", "\\bcatch\\b", "\\bfinally\\b", "\\bsynchronized\\b",
            "\\bassert\\b", "\\bSystem\\b", "\\bRandom\\b", "Exact\\(", "\\bprotected\\b", "[^\\x00-\\x7e]",
            "\\bthrow (?!new (IllegalStateException|IllegalArgumentException|IndexOutOfBoundsException)\\(\"[^\"]*\"\\);)",
        };
        for (String sign : forbidden) {
            Checks.due("the source has " + sign,
                    Pattern.compile(sign, Pattern.MULTILINE).matcher(source).find(), false);
        }
    }
}
