import java.lang.reflect.Constructor;
import java.lang.reflect.Field;
import java.lang.reflect.Member;
import java.lang.reflect.Method;
import java.lang.reflect.Modifier;
import java.util.ArrayList;
import java.util.Collections;
import java.util.List;

/** The public face is that of the document, and nothing but it can be seen from outside. */
public final class FaceTest {
    private static final String[] FACE = {
        "int feed(int,int,int,int,int)", "boolean end(int)", "int fault(int)", "int text(int)",
        "boolean law(int,int)", "int at(int)", "boolean set(int)", "int stand()", "int moves(int)",
        "int hold(int,int,int)", "int over()", "int judge(int)", "int value(int,int)", "int proof(int)",
        "int pair(int)", "int hurts(int,int,int,boolean,int)", "int ending(int,int,int,int)",
        "int puzzles(int,int,int,int)", "int round(int)", "int threats(int)", "int turnings(int)",
        "int match(int,int,long,int)", "int series(int,int,int,int,int)", "int all(int)", "int image()",
        "int back()", "int count(int)",
        "constant NONE", "constant HIDDEN", "constructor 0"};

    public static void main(String[] args) {
        Check check = new Check();
        List<String> seen = new ArrayList<>();
        for (Method method : HoldTwo.class.getDeclaredMethods()) {
            if (isSeen(method)) {
                seen.add(told(method));
            }
        }
        for (Field field : HoldTwo.class.getDeclaredFields()) {
            if (isSeen(field)) {
                seen.add("constant " + field.getName());
            }
        }
        for (Constructor<?> constructor : HoldTwo.class.getDeclaredConstructors()) {
            if (isSeen(constructor)) {
                seen.add("constructor " + constructor.getParameterCount());
            }
        }
        List<String> due = new ArrayList<>(List.of(FACE));
        Collections.sort(due);
        Collections.sort(seen);
        check.that("the face", due.equals(seen), seen + " instead of " + due);
        check.due("NONE", HoldTwo.NONE, -1);
        check.due("HIDDEN", HoldTwo.HIDDEN, -1000000);
        for (Class<?> inside : HoldTwo.class.getDeclaredClasses()) {
            check.that(inside.getName(), Modifier.isStatic(inside.getModifiers()), "is not static");
            for (Method method : inside.getDeclaredMethods()) {
                boolean isOther = seen.stream().noneMatch(told -> told.contains(" " + method.getName() + "("));
                check.that(inside.getName(), isOther, method.getName() + " bears a name of the face");
            }
        }
        check.that("final", Modifier.isFinal(HoldTwo.class.getModifiers()), "the class is not final");
        check.finish();
    }

    private static boolean isSeen(Member member) {
        return !Modifier.isPrivate(member.getModifiers()) && !member.isSynthetic();
    }

    private static String told(Method method) {
        StringBuilder text = new StringBuilder();
        text.append(method.getReturnType().getName()).append(' ').append(method.getName()).append('(');
        for (Class<?> type : method.getParameterTypes()) {
            text.append(text.charAt(text.length() - 1) == '(' ? "" : ",").append(type.getName());
        }
        return text.append(')').toString();
    }
}
