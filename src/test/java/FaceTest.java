import java.lang.reflect.Constructor;
import java.lang.reflect.Field;
import java.lang.reflect.Method;
import java.lang.reflect.Modifier;
import java.util.Set;
import java.util.TreeSet;

/** The class shows the document's face and nothing else (LANGUAGE.md, rules 1 and 5). */
public final class FaceTest {
    private static final String[] METHODS = {
        "int letter(int)", "int blank()", "int fault()", "int city()",
        "int about(int,int)", "int as(int,int)", "int bring(int,int)", "int tread(int,int)",
        "int sun(int)", "int day()", "int need(int,int)", "int plan(int,int,int)",
        "int error(int)", "int found(int,int,int)", "int forget()", "int suns()", "int look()",
        "int winters(int,int,int)", "int image()", "int restore()", "int count(int)",
        "long digest()",
    };

    private static String told(Method m) {
        StringBuilder text = new StringBuilder(m.getReturnType() + " " + m.getName() + "(");
        for (Class<?> type : m.getParameterTypes()) {
            text.append(text.charAt(text.length() - 1) == '(' ? "" : ",").append(type);
        }
        return text.append(')').toString();
    }

    public static void main(String[] args) {
        Check check = new Check("FaceTest");
        Set<String> seen = new TreeSet<>();
        Set<String> publicNames = new TreeSet<>();
        Set<String> hiddenNames = new TreeSet<>();
        for (Method m : SnowTerm.class.getDeclaredMethods()) {
            if (Modifier.isPrivate(m.getModifiers())) {
                hiddenNames.add(m.getName());
            } else {
                seen.add(told(m));
                publicNames.add(m.getName());
                check.due(told(m) + " is public, not static",
                        m.getModifiers() & (Modifier.PUBLIC | Modifier.STATIC), Modifier.PUBLIC);
            }
        }
        check.due("the methods are those of the document",
                seen.equals(new TreeSet<>(Set.of(METHODS))) ? 1 : 0, 1);
        hiddenNames.retainAll(publicNames);
        check.due("private methods with a public one's name: " + hiddenNames, hiddenNames.size(), 0);

        int constants = 0;
        for (Field f : SnowTerm.class.getDeclaredFields()) {
            int how = f.getModifiers();
            if (Modifier.isStatic(how)) {
                check.due(f.getName() + " is final", how & Modifier.FINAL, Modifier.FINAL);
            }
            if (!Modifier.isPrivate(how)) {
                constants++;
                check.due(f.getName() + " is public and static",
                        how & (Modifier.PUBLIC | Modifier.STATIC), Modifier.PUBLIC | Modifier.STATIC);
            }
        }
        check.due("constants", constants, 5);
        check.due("NONE", SnowTerm.NONE, -1);
        check.due("UNKNOWN", SnowTerm.UNKNOWN, -101);
        check.due("OUTSIDE", SnowTerm.OUTSIDE, -102);
        check.due("STATE", SnowTerm.STATE, -103);
        check.due("FULL", SnowTerm.FULL, -104);

        check.due("the class is public and final",
                SnowTerm.class.getModifiers() & (Modifier.PUBLIC | Modifier.FINAL),
                Modifier.PUBLIC | Modifier.FINAL);
        Constructor<?>[] made = SnowTerm.class.getDeclaredConstructors();
        check.due("constructors", made.length, 1);
        check.due("its arguments", made[0].getParameterCount(), 0);
        check.due("it is public", made[0].getModifiers() & Modifier.PUBLIC, Modifier.PUBLIC);
        check.end();
    }
}
