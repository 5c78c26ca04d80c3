import java.lang.reflect.Constructor;
import java.lang.reflect.Field;
import java.lang.reflect.Method;
import java.lang.reflect.Modifier;
import java.util.Set;
import java.util.TreeSet;

/** The class has the document's face, and nothing else that can be seen from outside. */
public final class FaceTest {
    private static final String[] FACE = {
        "TowerAppeal()",
        "int NONE", "int RANGE", "int FULL", "int STATE",
        "int feed(int,int,int,int,int)", "int end(int)", "int trust()", "int fault(int)", "int rule(int)",
        "int declare(int,int,int)", "int nameless(int,boolean)", "int pledge(int,int,int,int,int)",
        "int change(int,int)", "int pay(int,int)", "int gift(int,int)", "int takeUp(int)", "int claim()",
        "int about(int,int)", "int giver(int,int)", "int stage(int,int)", "int begin()", "int built(int,int)",
        "int months(int)", "int sure(int)", "int stone(int)", "int stop()", "int back(int)", "int count(int)",
    };

    public static void main(String[] args) {
        Check check = new Check("face");
        Set<String> seen = new TreeSet<>();
        Set<String> publicNames = new TreeSet<>();
        for (Constructor<?> c : TowerAppeal.class.getDeclaredConstructors()) {
            seen.add("TowerAppeal" + parameters(c.getParameterTypes()));
        }
        for (Field f : TowerAppeal.class.getDeclaredFields()) {
            if (!Modifier.isPrivate(f.getModifiers())) {
                int constant = Modifier.PUBLIC | Modifier.STATIC | Modifier.FINAL;
                check.isTrue(f + " is no constant", f.getModifiers() == constant);
                seen.add(f.getType() + " " + f.getName());
            }
        }
        for (Method m : TowerAppeal.class.getDeclaredMethods()) {
            if (!Modifier.isPrivate(m.getModifiers())) {
                check.isTrue(m + " is not public alone", m.getModifiers() == Modifier.PUBLIC);
                seen.add(m.getReturnType() + " " + m.getName() + parameters(m.getParameterTypes()));
                publicNames.add(m.getName());
            }
        }
        Set<String> due = new TreeSet<>(Set.of(FACE));
        check.isTrue("the face is " + seen, seen.equals(due));
        check.isTrue("the class isn't public final",
                TowerAppeal.class.getModifiers() == (Modifier.PUBLIC | Modifier.FINAL));
        checkClassesInside(check, publicNames);
        check.is("NONE", TowerAppeal.NONE, -1);
        check.is("RANGE", TowerAppeal.RANGE, -2);
        check.is("FULL", TowerAppeal.FULL, -3);
        check.is("STATE", TowerAppeal.STATE, -4);
        check.finish();
    }

    private static void checkClassesInside(Check check, Set<String> publicNames) {
        Class<?>[] inside = TowerAppeal.class.getDeclaredClasses();
        check.isTrue("more than twelve classes", inside.length < 12);
        for (Class<?> one : inside) {
            check.isTrue(one + " isn't static", Modifier.isStatic(one.getModifiers()));
            check.isTrue(one + " is seen from outside", !Modifier.isPublic(one.getModifiers()));
            check.isTrue(one + " has over twenty fields", fieldsOf(one) <= 20);
            for (Method m : one.getDeclaredMethods()) {
                check.isTrue(m + " has a public method's name", !publicNames.contains(m.getName()));
                check.isTrue(m + " has over seven parameters", m.getParameterCount() <= 7);
            }
        }
    }

    private static int fieldsOf(Class<?> one) {
        int fields = 0;
        for (Field f : one.getDeclaredFields()) {
            if (!Modifier.isStatic(f.getModifiers())) {
                fields++;
            }
        }
        return fields;
    }

    private static String parameters(Class<?>[] types) {
        StringBuilder names = new StringBuilder();
        for (Class<?> type : types) {
            names.append(names.length() == 0 ? "" : ",").append(type.getName());
        }
        return "(" + names + ")";
    }
}
