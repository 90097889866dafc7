import java.lang.reflect.Field;
import java.lang.reflect.Member;
import java.lang.reflect.Method;
import java.lang.reflect.Modifier;
import java.util.ArrayList;
import java.util.Arrays;
import java.util.List;
import java.util.TreeSet;

/** The public face is that of the document, and nothing else of the class is seen from outside. */
public final class FaceTest {
    private static final List<String> METHODS = List.of(
        "int setRow(int)", "int setKey(int, int)", "int addWords()", "int dropWord(int)",
        "int guess(int, char)", "int guessWord(int, int)", "int buy(int)", "int check(int)", "int give(int)",
        "int type(char)", "int clearText()", "int undo()", "int keep()", "int restore()",
        "int cell(int, int, int)", "int number(int, int)", "int word(int, int)", "int fits(int, int)",
        "int listed(int, int)", "int could(int, int)", "int count(int)");

    public static void main(String[] args) {
        Checks.due("UNKNOWN", SoldLetters.UNKNOWN, -1);
        Checks.due("BAD_VALUE", SoldLetters.BAD_VALUE, -2);
        Checks.due("FULL", SoldLetters.FULL, -3);
        Checks.due("NOT_POSSIBLE", SoldLetters.NOT_POSSIBLE, -4);
        Checks.due("NONE", SoldLetters.NONE, -5);
        Checks.isTrue("public and final", SoldLetters.class.getModifiers() == (Modifier.PUBLIC | Modifier.FINAL));
        methodsAreThose();
        membersAreHidden();
        Checks.end();
    }

    private static void methodsAreThose() {
        TreeSet<String> seen = new TreeSet<>();
        TreeSet<String> names = new TreeSet<>();
        TreeSet<String> hidden = new TreeSet<>();
        for (Method method : SoldLetters.class.getDeclaredMethods()) {
            if (Modifier.isPublic(method.getModifiers())) {
                seen.add(told(method));
                names.add(method.getName());
            } else {
                hidden.add(method.getName());
            }
        }
        Checks.isTrue("the methods are those of the document: " + seen, seen.equals(new TreeSet<>(METHODS)));
        hidden.retainAll(names);
        Checks.isTrue("no private method has a public one's name: " + hidden, hidden.isEmpty());
    }

    private static String told(Method method) {
        String parameters = Arrays.toString(method.getParameterTypes());
        return method.getReturnType() + " " + method.getName() + "(" + parameters.substring(1, parameters.length() - 1) + ")";
    }

    private static void membersAreHidden() {
        List<Member> members = new ArrayList<>(List.of(SoldLetters.class.getDeclaredFields()));
        members.addAll(List.of(SoldLetters.class.getDeclaredMethods()));
        int constants = 0;
        for (Member member : members) {
            boolean isPublic = Modifier.isPublic(member.getModifiers());
            Checks.isTrue(member + " is public or private", isPublic || Modifier.isPrivate(member.getModifiers()));
            if (member instanceof Field && isPublic) {
                constants++;
                Checks.isTrue(member + " is a constant", Modifier.isStatic(member.getModifiers()) && Modifier.isFinal(member.getModifiers()));
                Checks.isTrue(member + " is an int", ((Field) member).getType() == int.class);
            }
        }
        Checks.due("public constants", constants, 5);
        Checks.due("constructors", SoldLetters.class.getDeclaredConstructors().length, 1);
        Checks.due("public constructors", SoldLetters.class.getConstructors().length, 1);
        Checks.due("parameters of the constructor", SoldLetters.class.getConstructors()[0].getParameterCount(), 0);
        for (Class<?> inside : SoldLetters.class.getDeclaredClasses()) {
            Checks.isTrue(inside + " is static", Modifier.isStatic(inside.getModifiers()));
        }
    }
}
