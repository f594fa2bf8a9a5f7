import java.lang.reflect.Constructor;
import java.lang.reflect.Field;
import java.lang.reflect.Method;
import java.lang.reflect.Modifier;
import java.util.Set;
import java.util.TreeSet;

/** The public face: all that the document names, and nothing else. */
public final class FaceTest {
    private static final String OUT = "UnsupportedOperationException";
    private static final String ARGUMENT = "IllegalArgumentException";
    private static final String STATE = "IllegalStateException";
    private static final String INDEX = "IndexOutOfBoundsException";
    private static final Set<String> WANT = Set.of(
        "public void window(int,int,int,int) throws " + ARGUMENT,
        "public int minute(int) throws " + ARGUMENT,
        "public boolean seen(int) throws " + ARGUMENT,
        "public int receive(int,int) throws " + OUT + "," + ARGUMENT,
        "public int report() throws " + OUT,
        "public int send(int) throws " + OUT + "," + ARGUMENT + "," + STATE,
        "public int sent(int) throws " + INDEX,
        "public void fail(int) throws " + OUT + "," + ARGUMENT,
        "public int power()",
        "public boolean out()",
        "public int store(int) throws " + ARGUMENT,
        "public int packet(int,int) throws " + INDEX + "," + ARGUMENT,
        "public int content(int,int) throws " + INDEX);

    public static void main(String[] args) {
        Set<String> got = new TreeSet<>();
        Set<String> publicNames = new TreeSet<>();
        Set<String> privateNames = new TreeSet<>();
        for (Method m : RelayOrbiter.class.getDeclaredMethods()) {
            if (Modifier.isPrivate(m.getModifiers())) {
                privateNames.add(m.getName());
            } else {
                publicNames.add(m.getName());
                got.add(m.toString().replace("RelayOrbiter.", "").replace("java.lang.", ""));
            }
        }
        Due.isTrue("methods " + got, got.equals(WANT));
        privateNames.retainAll(publicNames);
        Due.isTrue("private methods with public names " + privateNames, privateNames.isEmpty());
        for (Field f : RelayOrbiter.class.getDeclaredFields()) {
            Due.isTrue(f + " is private", Modifier.isPrivate(f.getModifiers()));
        }
        Constructor<?>[] made = RelayOrbiter.class.getDeclaredConstructors();
        Due.equal("constructors", made.length, 1);
        Due.equal("its parameters", made[0].getParameterCount(), 0);
        Due.isTrue("it is public", Modifier.isPublic(made[0].getModifiers()));
        int modifiers = RelayOrbiter.class.getModifiers();
        Due.isTrue("public and final", Modifier.isPublic(modifiers) && Modifier.isFinal(modifiers));
        Due.end();
    }
}
