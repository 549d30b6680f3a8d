import java.lang.reflect.Constructor;
import java.lang.reflect.Field;
import java.lang.reflect.Method;
import java.lang.reflect.Modifier;
import java.util.Set;
import java.util.TreeSet;

/** The face is the document's and no more; LANGUAGE.md, rules 1, 5 and 11. */
public final class FaceTest {
    private static final Due DUE = new Due();
    private static final Set<String> FACE = Set.of(
            "int feed(int,int,int,int,int)", "int lists(int)", "int fault(int)", "int loft(int,int)",
            "int bird(int,int,int)", "int flight(int,int,int,int,int)",
            "boolean clock(int,int,int,int,int)", "int strike(int,int,int,int,int)",
            "long time(int,int,int)", "boolean protest(int,int,int)", "boolean clear(int,int)",
            "boolean withdraw(int,int,int)", "boolean stake(int,int,int,int)",
            "int result(int,int,int)", "int row(int,int)", "int faster(int,int,int,int)",
            "long prize(int,int,int,int)", "long pool(int,int,int,int)",
            "boolean close(int,int,int)", "int points(int,int,int)", "int count(int)");

    public static void main(String[] args) {
        methods();
        fieldsAndConstructors();
        classesInside();
        DUE.end();
    }

    private static String told(Method m) {
        StringBuilder text = new StringBuilder(m.getReturnType() + " " + m.getName() + "(");
        for (Class<?> type : m.getParameterTypes()) {
            text.append(text.charAt(text.length() - 1) == '(' ? "" : ",").append(type);
        }
        return text.append(')').toString();
    }

    private static void methods() {
        Set<String> names = new TreeSet<>();
        for (String face : FACE) {
            names.add(face.substring(face.indexOf(' ') + 1, face.indexOf('(')));
        }
        Set<String> found = new TreeSet<>();
        for (Method m : BirdOffice.class.getDeclaredMethods()) {
            if (!Modifier.isPrivate(m.getModifiers())) {
                found.add(told(m));
                DUE.due(m + " is public", Modifier.isPublic(m.getModifiers()), true);
            } else {
                DUE.due(m + " bears a name of the face", names.contains(m.getName()), false);
            }
        }
        DUE.due("the face is " + found, found.equals(new TreeSet<>(FACE)), true);
    }

    private static void fieldsAndConstructors() {
        DUE.due("final", Modifier.isFinal(BirdOffice.class.getModifiers()), true);
        for (Field f : BirdOffice.class.getDeclaredFields()) {
            boolean isFace = f.getName().equals("NONE");
            DUE.due(f + " is private", Modifier.isPrivate(f.getModifiers()), !isFace);
            boolean loose = Modifier.isStatic(f.getModifiers()) && !Modifier.isFinal(f.getModifiers());
            DUE.due(f + " is static and not final", loose, false);
        }
        Constructor<?>[] all = BirdOffice.class.getDeclaredConstructors();
        DUE.due("constructors", all.length, 1);
        DUE.due("constructor is public", Modifier.isPublic(all[0].getModifiers()), true);
        DUE.due("constructor's parameters", all[0].getParameterCount(), 0);
    }

    private static void classesInside() {
        Class<?>[] inside = BirdOffice.class.getDeclaredClasses();
        DUE.due("at most twelve classes", inside.length <= 11, true);
        for (Class<?> c : inside) {
            DUE.due(c + " is static", Modifier.isStatic(c.getModifiers()), true);
            DUE.due(c + " is hidden", Modifier.isPublic(c.getModifiers())
                    || Modifier.isProtected(c.getModifiers()), false);
            for (Method m : c.getDeclaredMethods()) {
                DUE.due(m + " takes at most seven", m.getParameterCount() <= 7, true);
            }
        }
    }
}
