import java.lang.reflect.Member;
import java.lang.reflect.Modifier;
import java.util.Arrays;
import java.util.Set;
import java.util.TreeSet;
import java.util.stream.Collectors;
import java.util.stream.Stream;

/** The public face is the document's and no wider. */
public final class FaceTest {
    private static final Set<String> FACE = Set.of(
        "public HouseWorkers()",
        "public static final int HouseWorkers.BAD", "public static final int HouseWorkers.NO",
        "public static final int HouseWorkers.FULL",
        "public int HouseWorkers.put(int,int)", "public int HouseWorkers.question(int,int,int)",
        "public int HouseWorkers.writer(int,int,int,int)", "public int HouseWorkers.reason(int,int)",
        "public int HouseWorkers.stream()", "public int HouseWorkers.turn(int)",
        "public int HouseWorkers.run(int)", "public int HouseWorkers.cancel(int)",
        "public int HouseWorkers.close()", "public int HouseWorkers.told(int,int)",
        "public int HouseWorkers.ended(int,int)", "public int HouseWorkers.cell(int,int)",
        "public int HouseWorkers.count(int)");

    private static boolean failed = false;

    public static void main(String[] args) {
        theFace();
        theConstants();
        noPrivateNameOfThePublic();
        System.out.println(failed ? "the face is not as due" : "the face is as due");
        if (failed) {
            System.exit(1);
        }
    }

    private static void fail(String why) {
        failed = true;
        System.out.println(why);
    }

    private static Stream<Member> members() {
        Class<?> face = HouseWorkers.class;
        return Stream.of(face.getDeclaredConstructors(), face.getDeclaredMethods(), face.getDeclaredFields())
            .flatMap(Arrays::stream);
    }

    private static void theFace() {
        if (HouseWorkers.class.getModifiers() != (Modifier.PUBLIC | Modifier.FINAL)) {
            fail("the class is not public and final alone");
        }
        Set<String> open = members().filter(m -> !Modifier.isPrivate(m.getModifiers()))
            .map(Object::toString).collect(Collectors.toCollection(TreeSet::new));
        if (!open.equals(FACE)) {
            fail("the face is " + open);
        }
    }

    private static void theConstants() {
        if (HouseWorkers.BAD != -1 || HouseWorkers.NO != -2 || HouseWorkers.FULL != -3) {
            fail("the constants are not -1, -2, -3");
        }
    }

    private static void noPrivateNameOfThePublic() {
        Set<String> open = Arrays.stream(HouseWorkers.class.getMethods()).map(Member::getName)
            .collect(Collectors.toSet());
        Stream<Class<?>> all = Stream.concat(Stream.of(HouseWorkers.class),
            Arrays.stream(HouseWorkers.class.getDeclaredClasses()));
        all.flatMap(c -> Arrays.stream(c.getDeclaredMethods()))
            .filter(m -> Modifier.isPrivate(m.getModifiers()) && open.contains(m.getName()))
            .forEach(m -> fail("it bears a public name: " + m));
    }
}
