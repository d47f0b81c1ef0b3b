import java.lang.reflect.Constructor;
import java.lang.reflect.Field;
import java.lang.reflect.Method;
import java.lang.reflect.Modifier;
import java.nio.file.Files;
import java.nio.file.Path;
import java.util.ArrayList;
import java.util.List;
import java.util.Set;
import java.util.TreeSet;
import java.util.regex.Matcher;
import java.util.regex.Pattern;

/**
 * The public face: just the document's members, in its order and parts, and nothing else that is not private; asked from
 * the project's folder.
 */
public final class FaceTest {
    private static final Check check = new Check();
    private static final Set<String> FACE = Set.of(
        "int write(int)", "int wipe()", "int fault()", "int post()", "int letter(int, int)", "int send(int)", "int day()",
        "int tear(int)", "int card(int)", "int undo()", "int price(int, int)", "int cheapest(int)",
        "int plan(int, boolean)", "int order()", "int judge(int, int)", "int cost(int, int)", "int waits(int, int)",
        "int who(int, int, int)", "int share(int, boolean)", "int rests(int, int, int)",
        "int lost(int, int, int, boolean)", "long seed(long)", "int years(int)", "int keep(int)", "int again(int)",
        "int count(int)");

    private static final List<String> PARTS = List.of(
        "the post: write wipe fault post letter", "acts: send day tear card undo",
        "prices: price cheapest plan order judge cost", "how long, who: waits who",
        "shares, rests, chances: share rests lost seed years", "slots: keep again count");

    public static void main(String[] args) throws Exception {
        check.promise("the face");
        check.due("UNKNOWN", WaitedPost.UNKNOWN, -1);
        check.due("OUTSIDE", WaitedPost.OUTSIDE, -2);
        check.due("STATE", WaitedPost.STATE, -3);
        check.due("FULL", WaitedPost.FULL, -4);
        check.due("NONE", WaitedPost.NONE, -9);
        check.due("public and final", WaitedPost.class.getModifiers(), Modifier.PUBLIC | Modifier.FINAL);
        methods();
        fields();
        Constructor<?>[] constructors = WaitedPost.class.getDeclaredConstructors();
        check.due("constructors", constructors.length, 1);
        check.due("public constructor", Modifier.isPublic(constructors[0].getModifiers()));
        check.due("without parameters", constructors[0].getParameterCount(), 0);
        parts();
        check.end();
    }

    private static void methods() {
        Set<String> open = new TreeSet<>();
        Set<String> names = new TreeSet<>();
        for (Method method : WaitedPost.class.getDeclaredMethods()) {
            if (!Modifier.isPrivate(method.getModifiers())) {
                StringBuilder face = new StringBuilder(method.getReturnType() + " " + method.getName() + "(");
                for (Class<?> type : method.getParameterTypes()) {
                    face.append(face.charAt(face.length() - 1) == '(' ? "" : ", ").append(type);
                }
                open.add(face.append(")").toString());
                names.add(method.getName());
                check.due(face + " is public", Modifier.isPublic(method.getModifiers()));
                check.due(face + " is no static one", !Modifier.isStatic(method.getModifiers()));
            }
        }
        check.due("the methods " + open, open.equals(FACE));
        for (Method method : WaitedPost.class.getDeclaredMethods()) {
            if (Modifier.isPrivate(method.getModifiers())) {
                check.due("the private name " + method.getName() + " is its own", !names.contains(method.getName()));
            }
        }
    }

    private static void fields() {
        Set<String> constants = new TreeSet<>();
        for (Field field : WaitedPost.class.getDeclaredFields()) {
            if (!Modifier.isPrivate(field.getModifiers())) {
                constants.add(field.getName());
            }
            if (Modifier.isStatic(field.getModifiers())) {
                check.due(field.getName() + " is final", Modifier.isFinal(field.getModifiers()));
            }
        }
        check.due("the constants", constants.equals(Set.of("UNKNOWN", "OUTSIDE", "STATE", "FULL", "NONE")));
    }

    /** What the interface says ahead of which calls. */
    private static void parts() throws Exception {
        check.promise("Ahead of the calls");
        Pattern line = Pattern.compile("    (?:// ---- (.*)|public (?:int|long) (\\w+)\\(.*)");
        List<String> parts = new ArrayList<>();
        for (String told : Files.readAllLines(Path.of("src/main/java/WaitedPost.java"))) {
            Matcher found = line.matcher(told);
            if (!found.matches()) {
                continue;
            }
            if (found.group(1) != null) {
                parts.add(found.group(1) + ":");
            } else if (!parts.isEmpty()) {
                parts.add(parts.remove(parts.size() - 1) + " " + found.group(2));
            }
        }
        // the parts behind the face's have no calls of it
        check.due("the interface says " + parts, parts.size() >= PARTS.size() && parts.subList(0, PARTS.size()).equals(PARTS));
        for (String part : parts.subList(Math.min(PARTS.size(), parts.size()), parts.size())) {
            check.due(part, part.endsWith(":"));
        }
    }
}
