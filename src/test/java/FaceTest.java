import java.lang.reflect.Constructor;
import java.lang.reflect.Field;
import java.lang.reflect.Method;
import java.lang.reflect.Modifier;
import java.util.Arrays;
import java.util.Set;
import java.util.TreeSet;

/** The public face is the document's and no more; the classes inside are static and not public. */
public final class FaceTest {
    private static final Due D = new Due();
    private static final String[] FACE = {
        "corner(int,int)", "way(int,int,int,boolean)", "shut(int,int)", "far(int,int,int,boolean)",
        "feed(long,int)", "story()", "as(int,int,int)", "of(int,int,int)",
        "check(int,int,int,boolean,int)", "quickest(int,int,int,boolean)",
        "route(int,int,int,boolean,int)", "walker(int,boolean)", "today(int)", "go(int,int)",
        "about(int,int)", "offer(int)", "rest(int)", "lost(int)", "seen(int,int,int,int)",
        "sheet(int,int,int)", "write(int,int,int)", "copy(int,int,int,int,int)", "trace(int,int)",
        "told(int)"};

    public static void main(String[] args) {
        methods();
        members();
        D.end();
    }

    private static String face(Method method) {
        StringBuilder text = new StringBuilder(method.getName()).append('(');
        for (Class<?> type : method.getParameterTypes()) {
            text.append(text.charAt(text.length() - 1) == '(' ? "" : ",").append(type.getName());
        }
        return text.append(')').toString();
    }

    private static void methods() {
        Set<String> open = new TreeSet<>();
        Set<String> names = new TreeSet<>();
        for (Method method : WalkTeller.class.getDeclaredMethods()) {
            if (!Modifier.isPrivate(method.getModifiers())) {
                open.add(face(method));
                names.add(method.getName());
                D.due(method.getName() + " is public", method.getModifiers(), Modifier.PUBLIC);
                D.due(method.getName() + " answers an int", method.getReturnType() == int.class ? 1 : 0, 1);
            }
        }
        Set<String> want = new TreeSet<>(Arrays.asList(FACE));
        D.due("the face " + open, open.equals(want) ? 1 : 0, 1);
        for (Class<?> inside : WalkTeller.class.getDeclaredClasses()) {
            for (Method method : inside.getDeclaredMethods()) {
                D.due(inside + " " + method.getName(), names.contains(method.getName()) ? 1 : 0, 0);
            }
        }
        for (Method method : WalkTeller.class.getDeclaredMethods()) {
            boolean twice = Modifier.isPrivate(method.getModifiers()) && names.contains(method.getName());
            D.due("private " + method.getName(), twice ? 1 : 0, 0);
        }
    }

    private static void members() {
        Class<?> face = WalkTeller.class;
        D.due("the class", face.getModifiers(), Modifier.PUBLIC | Modifier.FINAL);
        D.due("constructors", face.getDeclaredConstructors().length, 1);
        for (Constructor<?> made : face.getDeclaredConstructors()) {
            D.due("constructor", made.getModifiers(), Modifier.PUBLIC);
            D.due("its parameters", made.getParameterCount(), 0);
        }
        for (Field field : face.getDeclaredFields()) {
            D.due(field.getName(), Modifier.isPrivate(field.getModifiers()) ? 1 : 0, 1);
        }
        D.due("at most twelve classes", face.getDeclaredClasses().length <= 11 ? 1 : 0, 1);
        for (Class<?> inside : face.getDeclaredClasses()) {
            int modifiers = inside.getModifiers();
            boolean fits = Modifier.isStatic(modifiers) && !Modifier.isPublic(modifiers);
            D.due(inside.getName(), fits && !Modifier.isProtected(modifiers) ? 1 : 0, 1);
        }
    }
}
