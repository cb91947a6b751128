import java.lang.reflect.Constructor;
import java.lang.reflect.Field;
import java.lang.reflect.Method;
import java.lang.reflect.Modifier;
import java.util.TreeSet;

/** The public face of the document and rule 1 of LANGUAGE.md. */
public final class FaceTest {
    private static final String FACE = "[public int TankArena.bullet(int,int), public int TankArena.count(int), "
        + "public int TankArena.enter(int,int,int), public int TankArena.instr(int,int,int,int), "
        + "public int TankArena.restart(), public int TankArena.state(int,int), public int TankArena.turn(), "
        + "public long TankArena.measure(int,int)]";

    public static void main(String[] args) {
        Checks checks = new Checks();
        Class<?> face = TankArena.class;
        checks.due("class", Modifier.toString(face.getModifiers()), "public final");
        checks.due("REFUSED", TankArena.REFUSED, -1000000);

        TreeSet<String> seen = new TreeSet<>();
        TreeSet<String> publicNames = new TreeSet<>();
        for (Method method : face.getDeclaredMethods()) {
            if (!Modifier.isPrivate(method.getModifiers())) {
                seen.add(method.toString());
                publicNames.add(method.getName());
            }
        }
        checks.due("methods", seen.toString(), FACE);
        for (Method method : face.getDeclaredMethods()) {
            boolean twice = Modifier.isPrivate(method.getModifiers()) && publicNames.contains(method.getName());
            checks.due("private namesake of " + method.getName(), twice ? 1 : 0, 0);
        }

        Constructor<?>[] constructors = face.getDeclaredConstructors();
        checks.due("constructors", constructors.length, 1);
        checks.due("constructor", constructors[0].toString(), "public TankArena()");

        for (Field field : face.getDeclaredFields()) {
            boolean open = !Modifier.isPrivate(field.getModifiers());
            checks.due("open field " + field.getName(), open ? 1 : 0, field.getName().equals("REFUSED") ? 1 : 0);
        }
        for (Class<?> inside : face.getDeclaredClasses()) {
            int modifiers = inside.getModifiers();
            boolean allowed = Modifier.isStatic(modifiers) && !Modifier.isPublic(modifiers) && !Modifier.isProtected(modifiers);
            checks.due("class inside " + inside.getName(), allowed ? 1 : 0, 1);
        }
        checks.end();
    }
}
