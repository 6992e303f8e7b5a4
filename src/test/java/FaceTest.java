import java.lang.reflect.Constructor;
import java.lang.reflect.Field;
import java.lang.reflect.Method;
import java.lang.reflect.Modifier;
import java.util.Arrays;
import java.util.Set;
import java.util.TreeSet;

/** The public face is the document's, no more and no less, and the classes inside keep to LANGUAGE.md's rule 1. */
public final class FaceTest {
    private static final String[] FACE = {
        "int feed(int,int,int,int,int)", "int text(int)", "int fault(int)", "int named(int,int)",
        "int parish(int,int) throws IndexOutOfBoundsException,NoSuchElementException", "int child(int,int)",
        "int cake(int,int)", "int owners(int,int)", "int overlap(int,int)", "int taken()", "int disputed()",
        "long law(int,int,int,int)", "int beat(int,int,int)", "boolean bake(int,int,int)", "int carry(int,int,int)",
        "int go(int)", "int ahead(int,int,int)", "int when(int,int,int)", "int laid(int,int)",
        "int cakeFor(int,int,int,int,int)", "int cut(int,int,int)", "int realms()", "int colours()",
        "int rests(int,int)", "int rest(int,int,int)", "long dry(int,int)", "int see(int,int,int,int,boolean)",
        "int strike(int)", "boolean known(int)", "int legsOf(int)", "int ask(int,int,int)",
        "int chance(int,int,int,int)", "int tried(int,int,int)", "int undo()", "int keep()", "int back()",
        "int count(int)"};

    public static void main(String[] args) throws ReflectiveOperationException {
        Class<?> face = BeatenBounds.class;
        Due.is("public final", face.getModifiers(), Modifier.PUBLIC | Modifier.FINAL);
        Set<String> due = new TreeSet<>(Arrays.asList(FACE));
        Set<String> names = new TreeSet<>();
        Set<String> found = new TreeSet<>();
        for (Method method : face.getDeclaredMethods()) {
            if (Modifier.isPublic(method.getModifiers())) {
                found.add(told(method));
                names.add(method.getName());
            }
        }
        for (Method method : face.getDeclaredMethods()) {
            boolean open = Modifier.isPublic(method.getModifiers());
            Due.is("private " + method, open || Modifier.isPrivate(method.getModifiers()), true);
            Due.is("no name of a public one: " + method, !open && names.contains(method.getName()), false);
        }
        System.out.println("face: " + found.size() + " methods");
        Due.is("the face is the document's: " + found, found.equals(due), true);
        for (Field field : face.getDeclaredFields()) {
            boolean none = field.getName().equals("NONE");
            Due.is("visible: " + field, Modifier.isPrivate(field.getModifiers()), !none);
        }
        Due.is("NONE", face.getField("NONE").getInt(null), -1);
        Constructor<?>[] made = face.getDeclaredConstructors();
        Due.is("constructors", made.length, 1);
        Due.is("public constructor", Modifier.isPublic(made[0].getModifiers()), true);
        for (Class<?> inside : face.getDeclaredClasses()) {
            int how = inside.getModifiers();
            Due.is("static, not open: " + inside, Modifier.isStatic(how) && !Modifier.isPublic(how), true);
            Due.is("fields of " + inside, states(inside) <= 20, true);
            for (Method method : inside.getDeclaredMethods()) {
                Due.is("no name of a public one: " + method, names.contains(method.getName()), false);
                Due.is("parameters of " + method, method.getParameterCount() <= 7, true);
            }
        }
        Due.end();
    }

    private static int states(Class<?> inside) {
        int states = 0;
        for (Field field : inside.getDeclaredFields()) {
            states += Modifier.isStatic(field.getModifiers()) ? 0 : 1;
            Due.is("static is final: " + field,
                !Modifier.isStatic(field.getModifiers()) || Modifier.isFinal(field.getModifiers()), true);
        }
        return states;
    }

    private static String told(Method method) {
        StringBuilder told = new StringBuilder(method.getReturnType() + " " + method.getName() + "(");
        String between = "";
        for (Class<?> type : method.getParameterTypes()) {
            told.append(between).append(type.getSimpleName());
            between = ",";
        }
        told.append(")");
        between = " throws ";
        for (Class<?> type : method.getExceptionTypes()) {
            told.append(between).append(type.getSimpleName());
            between = ",";
        }
        return told.toString();
    }
}
