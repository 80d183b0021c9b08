import java.lang.reflect.Constructor;
import java.lang.reflect.Field;
import java.lang.reflect.Method;
import java.lang.reflect.Modifier;
import java.util.TreeSet;

/** The public face: just what the document names, and nothing else that is not private. */
public final class FaceTest {
    private static final String[] DUE = {
        "int NONE", "int IN", "int EX", "int TO_IN", "int TO_EX", "int ALLOW", "int BLOCK",
        "GroupFilters(int)",
        "int settings(int,int,int,int) throws IndexOutOfBoundsException,IllegalArgumentException",
        "int report(int,int,int,int) throws IndexOutOfBoundsException,IllegalArgumentException",
        "boolean query(int,int,int,int,boolean) throws IndexOutOfBoundsException,IllegalArgumentException",
        "int tick(int) throws IllegalArgumentException",
        "int member(int,int,int,boolean,int) throws IndexOutOfBoundsException,IllegalArgumentException",
        "int answer(int,int) throws IndexOutOfBoundsException",
        "boolean wanted(int,int,int) throws IndexOutOfBoundsException",
        "int passed(int,int,int) throws IndexOutOfBoundsException",
        "int mode(int,int) throws IndexOutOfBoundsException",
        "int sources(int,int,boolean) throws IndexOutOfBoundsException",
        "int timer(int,int,int) throws IndexOutOfBoundsException",
        "int groupTimer(int,int) throws IndexOutOfBoundsException",
        "int sent()",
        "int asked(int,int) throws IndexOutOfBoundsException,IllegalArgumentException",
        "int told(int,int) throws IndexOutOfBoundsException,IllegalArgumentException",
        "void clear()"};

    public static void main(String[] args) {
        TreeSet<String> due = new TreeSet<>();
        for (String one : DUE) {
            due.add(one);
        }
        Check.due("the face", String.join("\n", face()), String.join("\n", due));
        Check.due("public and final", GroupFilters.class.getModifiers(), Modifier.PUBLIC | Modifier.FINAL);
        int[] constants = {GroupFilters.NONE, GroupFilters.IN, GroupFilters.EX, GroupFilters.TO_IN,
            GroupFilters.TO_EX, GroupFilters.ALLOW, GroupFilters.BLOCK};
        for (int i = 0; i < constants.length; i++) {
            Check.due("constant " + i, constants[i], i - 1);
        }
        Check.end();
    }

    private static TreeSet<String> face() {
        TreeSet<String> face = new TreeSet<>();
        for (Field f : GroupFilters.class.getDeclaredFields()) {
            if (!Modifier.isPrivate(f.getModifiers())) {
                Check.due(f.getName() + " is a constant", f.getModifiers(),
                    Modifier.PUBLIC | Modifier.STATIC | Modifier.FINAL);
                face.add(f.getType() + " " + f.getName());
            }
        }
        for (Constructor<?> c : GroupFilters.class.getDeclaredConstructors()) {
            face.add("GroupFilters(" + names(c.getParameterTypes()) + ")");
        }
        for (Method m : GroupFilters.class.getDeclaredMethods()) {
            if (!Modifier.isPrivate(m.getModifiers())) {
                Check.due(m.getName() + " is public", m.getModifiers(), Modifier.PUBLIC);
                String thrown = m.getExceptionTypes().length == 0 ? "" : " throws " + names(m.getExceptionTypes());
                face.add(m.getReturnType() + " " + m.getName() + "(" + names(m.getParameterTypes()) + ")" + thrown);
            }
        }
        return face;
    }

    private static String names(Class<?>[] types) {
        StringBuilder text = new StringBuilder();
        for (Class<?> type : types) {
            text.append(text.length() == 0 ? "" : ",").append(type.getSimpleName());
        }
        return text.toString();
    }
}
