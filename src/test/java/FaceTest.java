import java.io.IOException;
import java.lang.reflect.Constructor;
import java.lang.reflect.Field;
import java.lang.reflect.Method;
import java.lang.reflect.Modifier;
import java.nio.file.Files;
import java.nio.file.Path;
import java.util.ArrayList;
import java.util.Arrays;
import java.util.List;
import java.util.Set;
import java.util.TreeSet;
import java.util.regex.MatchResult;
import java.util.regex.Pattern;

/** The public face is the document's and no more; the classes inside are static and not public. */
public final class FaceTest {
    private static final Due D = new Due();
    private static final String[] FACE = {
        "corner(int,int)", "way(int,int,int,boolean)", "shut(int,int)", "far(int,int,int,boolean)",
        "feed(long,int)", "story()", "as(int,int,int)", "of(int,int,int)",
        "check(int,int,int,boolean,int)", "quickest(int,int,int,boolean)",
        "route(int,int,int,boolean,int)", "walker(int,boolean)", "today(int)", "go(int,int)",
        "about(int,int)", "offer(int)", "rest(int)", "lost(int)", "seen(int,int,int,int)",
        "sheet(int,int,int)", "write(int,int,int)", "copy(int,int,int,int,int)", "trace(int,int)",
        "told(int)"};

    private static final Path DOCUMENT = Path.of("..", "shared", "DOC.md");
    private static final Path PROGRAM = Path.of("src", "main", "java", "WalkTeller.java");

    public static void main(String[] args) throws IOException {
        methods();
        members();
        String document = Files.readString(DOCUMENT);
        String program = Files.readString(PROGRAM);
        signatures(document, program);
        headings(document, program);
        D.end();
    }

    private static List<String> all(String pattern, String text) {
        return Pattern.compile(pattern).matcher(text).results().map(MatchResult::group).toList();
    }

    /** The document's face, its order and its names of parameters, and each promise's own face. */
    private static void signatures(String document, String program) {
        List<String> due = all("public (int )?\\w+\\([^)]*\\)", document);
        List<String> there = all("public (int )?\\w+\\([^)]*\\)", program);
        D.due("the document's acts and constructor", due.size(), 25);
        D.due("the face " + there + ", the document has " + due, there.equals(due) ? 1 : 0, 1);
        List<String> promised = all("(?m)^`[^`]+`(?=:)", document);
        D.due("promises", promised.size(), 25);
        for (String promise : promised) {
            String face = "public " + promise.replace("`", "");
            D.due("the promise " + promise + " is in the face", there.contains(face) ? 1 : 0, 1);
        }
    }

    /** "Ahead of the calls .. the interface says: ---- ..": so does the program. */
    private static void headings(String document, String program) {
        List<String> due = new ArrayList<>();
        for (String line : all("(?m)^Ahead of the calls .*$", document)) {
            String heading = line.replaceFirst(".* the interface says: (.*)\\.$", "$1");
            due.add(heading);
            all("`\\w+`", line).forEach(call -> due.add(call.replace("`", "")));
        }
        List<String> there = new ArrayList<>();
        for (String line : all("(?m)^    (public int \\w+|// ---- .*$)", program)) {
            there.add(line.strip().replaceFirst("^(public int|//) ", ""));
        }
        D.due("headings and calls of the document", due.size(), 28);
        D.due("headings and calls " + there + ", the document has " + due,
            there.subList(0, Math.min(there.size(), due.size())).equals(due) ? 1 : 0, 1);
    }

    private static String face(Method method) {
        StringBuilder text = new StringBuilder(method.getName()).append('(');
        for (Class<?> type : method.getParameterTypes()) {
            text.append(text.charAt(text.length() - 1) == '(' ? "" : ",").append(type.getName());
        }
        return text.append(')').toString();
    }

    private static void methods() {
        Set<String> open = new TreeSet<>();
        Set<String> names = new TreeSet<>();
        for (Method method : WalkTeller.class.getDeclaredMethods()) {
            if (!Modifier.isPrivate(method.getModifiers())) {
                open.add(face(method));
                names.add(method.getName());
                D.due(method.getName() + " is public", method.getModifiers(), Modifier.PUBLIC);
                D.due(method.getName() + " answers an int", method.getReturnType() == int.class ? 1 : 0, 1);
            }
        }
        Set<String> want = new TreeSet<>(Arrays.asList(FACE));
        D.due("the face " + open, open.equals(want) ? 1 : 0, 1);
        for (Class<?> inside : WalkTeller.class.getDeclaredClasses()) {
            for (Method method : inside.getDeclaredMethods()) {
                D.due(inside + " " + method.getName(), names.contains(method.getName()) ? 1 : 0, 0);
            }
        }
        for (Method method : WalkTeller.class.getDeclaredMethods()) {
            boolean twice = Modifier.isPrivate(method.getModifiers()) && names.contains(method.getName());
            D.due("private " + method.getName(), twice ? 1 : 0, 0);
        }
    }

    private static void members() {
        Class<?> face = WalkTeller.class;
        D.due("the class", face.getModifiers(), Modifier.PUBLIC | Modifier.FINAL);
        D.due("constructors", face.getDeclaredConstructors().length, 1);
        for (Constructor<?> made : face.getDeclaredConstructors()) {
            D.due("constructor", made.getModifiers(), Modifier.PUBLIC);
            D.due("its parameters", made.getParameterCount(), 0);
        }
        for (Field field : face.getDeclaredFields()) {
            D.due(field.getName(), Modifier.isPrivate(field.getModifiers()) ? 1 : 0, 1);
        }
        D.due("at most twelve classes", face.getDeclaredClasses().length <= 11 ? 1 : 0, 1);
        for (Class<?> inside : face.getDeclaredClasses()) {
            int modifiers = inside.getModifiers();
            boolean fits = Modifier.isStatic(modifiers) && !Modifier.isPublic(modifiers);
            D.due(inside.getName(), fits && !Modifier.isProtected(modifiers) ? 1 : 0, 1);
        }
    }
}
