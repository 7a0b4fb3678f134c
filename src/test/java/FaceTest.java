import java.lang.reflect.Constructor;
import java.lang.reflect.Field;
import java.lang.reflect.Method;
import java.lang.reflect.Modifier;
import java.util.ArrayList;
import java.util.Collections;
import java.util.HashSet;
import java.util.List;
import java.util.Set;

/** "The public face": the constructor and the methods of the document, and nothing else that is not private. */
public final class FaceTest {
    private static final String[] FACE = {
        "int advance(int) throws IllegalArgumentException",
        "int day()",
        "int enact(int,int,boolean,int) throws "
            + "IllegalArgumentException,IndexOutOfBoundsException,UnsupportedOperationException,IllegalStateException",
        "int condition(int,char,int) throws "
            + "IndexOutOfBoundsException,IllegalArgumentException,UnsupportedOperationException,IllegalStateException",
        "int act(int,boolean,int) throws "
            + "IndexOutOfBoundsException,IllegalArgumentException,IllegalStateException",
        "boolean isInForce(int,int,int) throws IndexOutOfBoundsException,IllegalArgumentException",
        "int setLimit(int,int) throws IllegalArgumentException",
        "int toll(int,int,int,int) throws IllegalArgumentException,IllegalStateException",
        "boolean setPrivilege(int,int,boolean) throws IllegalArgumentException",
        "int begin(int,int,int,int,int,int) throws "
            + "IllegalArgumentException,UnsupportedOperationException,IllegalStateException",
        "int answer(int,int,boolean) throws "
            + "IndexOutOfBoundsException,IllegalArgumentException,UnsupportedOperationException",
        "int setStandard(int,int,int) throws "
            + "IndexOutOfBoundsException,IllegalArgumentException,UnsupportedOperationException",
        "boolean presume(int,int,boolean) throws "
            + "IndexOutOfBoundsException,IllegalArgumentException,UnsupportedOperationException",
        "boolean concede(int,int) throws "
            + "IndexOutOfBoundsException,IllegalArgumentException,UnsupportedOperationException",
        "int addEvidence(int,int,boolean,int,int,int) throws "
            + "IndexOutOfBoundsException,IllegalArgumentException,UnsupportedOperationException,IllegalStateException",
        "boolean isAdmitted(int,int) throws IndexOutOfBoundsException",
        "int joined(int,int,boolean) throws IndexOutOfBoundsException,IllegalArgumentException",
        "boolean isFound(int,int) throws IndexOutOfBoundsException,IllegalArgumentException",
        "int elapsed(int) throws IndexOutOfBoundsException",
        "boolean isLate(int) throws IndexOutOfBoundsException",
        "boolean judge(int) throws IndexOutOfBoundsException,UnsupportedOperationException",
        "int appeal(int) throws "
            + "IndexOutOfBoundsException,NoSuchElementException,UnsupportedOperationException",
        "char decide(int) throws IndexOutOfBoundsException,UnsupportedOperationException",
        "char stateOf(int) throws IndexOutOfBoundsException",
        "boolean outcome(int) throws IndexOutOfBoundsException,NoSuchElementException",
        "int court(int) throws IndexOutOfBoundsException",
        "int rows(int) throws IndexOutOfBoundsException,NoSuchElementException",
        "int rowIssue(int,int) throws IndexOutOfBoundsException,NoSuchElementException",
        "boolean rowHeld(int,int) throws IndexOutOfBoundsException,NoSuchElementException",
        "int rowBy(int,int) throws IndexOutOfBoundsException,NoSuchElementException",
        "boolean isPrecedent(int) throws IndexOutOfBoundsException,NoSuchElementException",
        "boolean wouldHold(int,int) throws IndexOutOfBoundsException,IllegalArgumentException",
        "int give(int,int) throws IllegalArgumentException,UnsupportedOperationException",
        "int assets(int) throws IllegalArgumentException",
        "int debt(int) throws IndexOutOfBoundsException",
        "int setRank(int,int) throws IndexOutOfBoundsException,IllegalArgumentException",
        "int enforce(int) throws "
            + "IndexOutOfBoundsException,UnsupportedOperationException,NoSuchElementException",
        "int insolvency(int) throws IllegalArgumentException,UnsupportedOperationException",
        "int sections()",
        "int cases()",
        "long wealth()",
        "float wonShare() throws ArithmeticException",
        "double meanRows() throws ArithmeticException",
        "boolean isSound()",
    };

    public static void main(String[] args) {
        Check.same("methods of the document", FACE.length, 44);
        methods();
        members();
        names();
        Check.end();
    }

    private static void methods() {
        List<String> due = new ArrayList<>(List.of(FACE));
        List<String> got = new ArrayList<>();
        for (Method method : Courtyard.class.getDeclaredMethods()) {
            if (!Modifier.isPrivate(method.getModifiers()) && !method.isSynthetic()) {
                got.add(text(method));
            }
        }
        Collections.sort(due);
        Collections.sort(got);
        Check.same("the methods that are not private", String.join("\n", got), String.join("\n", due));
    }

    private static String text(Method method) {
        StringBuilder text = new StringBuilder(method.getReturnType().getSimpleName());
        text.append(' ').append(method.getName()).append('(').append(names(method.getParameterTypes())).append(')');
        String thrown = names(method.getExceptionTypes());
        return text + (thrown.isEmpty() ? "" : " throws " + thrown);
    }

    private static String names(Class<?>[] types) {
        List<String> names = new ArrayList<>();
        for (Class<?> type : types) {
            names.add(type.getSimpleName());
        }
        return String.join(",", names);
    }

    private static void members() {
        Check.same("the class is public and final", Courtyard.class.getModifiers(), Modifier.PUBLIC | Modifier.FINAL);
        Constructor<?>[] constructors = Courtyard.class.getDeclaredConstructors();
        Check.same("constructors", constructors.length, 1);
        Check.same("its arguments", constructors[0].getParameterCount(), 0);
        Check.same("it is public", Modifier.isPublic(constructors[0].getModifiers()), true);
        for (Field field : Courtyard.class.getDeclaredFields()) {
            Check.same("private: " + field.getName(), Modifier.isPrivate(field.getModifiers()), true);
            boolean isConstant = !Modifier.isStatic(field.getModifiers()) || Modifier.isFinal(field.getModifiers());
            Check.same("no static state: " + field.getName(), isConstant, true);
        }
        for (Class<?> inside : Courtyard.class.getDeclaredClasses()) {
            int modifiers = inside.getModifiers();
            boolean isHidden = !Modifier.isPublic(modifiers) && !Modifier.isProtected(modifiers);
            Check.same("inside: " + inside.getSimpleName(), isHidden && Modifier.isStatic(modifiers), true);
        }
    }

    private static void names() {
        Set<String> names = new HashSet<>();
        for (String line : FACE) {
            names.add(line.substring(line.indexOf(' ') + 1, line.indexOf('(')));
        }
        List<Class<?>> all = new ArrayList<>(List.of(Courtyard.class.getDeclaredClasses()));
        all.add(Courtyard.class);
        for (Class<?> type : all) {
            for (Method method : type.getDeclaredMethods()) {
                if (!Modifier.isPublic(method.getModifiers())) {
                    Check.same("no name of the face: " + method.getName(), names.contains(method.getName()), false);
                }
            }
        }
    }
}
