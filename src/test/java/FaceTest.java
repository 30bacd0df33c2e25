import java.lang.reflect.Field;
import java.lang.reflect.Method;
import java.lang.reflect.Modifier;
import java.util.Arrays;
import java.util.Set;
import java.util.TreeSet;

/** The class shows what the document's public face has, and nothing else. */
public final class FaceTest {
    private static final String INDEX = " throws java.lang.IndexOutOfBoundsException";
    private static final String ARGUMENT = "java.lang.IllegalArgumentException";

    private static final Set<String> METHODS = Set.of(
        "public boolean TreeGossip.put(int,int,long,long,int)" + INDEX + "," + ARGUMENT,
        "public int TreeGossip.get(int,int,int)" + INDEX,
        "public long TreeGossip.stamp(int,int)" + INDEX,
        "public long TreeGossip.hash(int,int,int)" + INDEX,
        "public boolean TreeGossip.start(int)" + INDEX,
        "public int TreeGossip.step(int)" + INDEX,
        "public int TreeGossip.lose(int)" + INDEX,
        "public int TreeGossip.run(int) throws " + ARGUMENT,
        "public int TreeGossip.message(int,int,int)" + INDEX,
        "public int TreeGossip.count(int)" + INDEX,
        "public boolean TreeGossip.same()",
        "public void TreeGossip.clear()");

    public static void main(String[] args) {
        Class<?> face = TreeGossip.class;
        Check.equal("modifiers of the class", Modifier.toString(face.getModifiers()), "public final");
        Check.equal("constructors", Arrays.toString(face.getDeclaredConstructors()), "[public TreeGossip()]");
        checkMethods(face);
        checkFields(face);
        Check.equal("NONE", TreeGossip.NONE, -1);
        Check.end();
    }

    private static void checkMethods(Class<?> face) {
        Set<String> shown = new TreeSet<>();
        Set<String> publicNames = new TreeSet<>();
        Set<String> privateNames = new TreeSet<>();
        for (Method method : face.getDeclaredMethods()) {
            if (Modifier.isPrivate(method.getModifiers())) {
                privateNames.add(method.getName());
            } else {
                shown.add(method.toString());
                publicNames.add(method.getName());
            }
        }
        Check.equal("methods", shown, new TreeSet<>(METHODS));
        privateNames.retainAll(publicNames);
        Check.equal("private methods with a public one's name", privateNames, Set.of());
    }

    private static void checkFields(Class<?> face) {
        Set<String> shown = new TreeSet<>();
        for (Field field : face.getDeclaredFields()) {
            if (!Modifier.isPrivate(field.getModifiers())) {
                shown.add(field.toString());
            }
        }
        Check.equal("fields", shown, Set.of("public static final int TreeGossip.NONE"));
    }
}
