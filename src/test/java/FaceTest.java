import java.lang.reflect.Constructor;
import java.lang.reflect.Field;
import java.lang.reflect.Method;
import java.lang.reflect.Modifier;
import java.util.Set;
import java.util.TreeSet;

/** The document's public face: all of it, and no other member that can be seen from outside. */
public final class FaceTest {
    private static final Checks CHECKS = new Checks();
    private static final Set<String> FACE = Set.of(
            "public LiftedTile()",
            "public boolean LiftedTile.open(int,int,int,int)",
            "public boolean LiftedTile.put(int,int,int,int)",
            "public int LiftedTile.at(int,int,int)",
            "public boolean LiftedTile.mix()",
            "public boolean LiftedTile.unmix()",
            "public boolean LiftedTile.mixed()",
            "public boolean LiftedTile.forward(int)",
            "public boolean LiftedTile.back()",
            "public int LiftedTile.levels()",
            "public int LiftedTile.kernel(int)",
            "public int LiftedTile.start(int,int,boolean)",
            "public int LiftedTile.size(int,int,boolean)",
            "public int LiftedTile.coefficient(int,int,int,int,int)",
            "public int LiftedTile.thin(int,int,int)",
            "public long LiftedTile.weight(int,int,int)");

    public static void main(String[] args) {
        membersAreTheFace();
        namesOfTheFaceAreUsedOnce();
        classesAreNotSeenFromOutside();
        CHECKS.due("the class's modifiers", LiftedTile.class.getModifiers(), Modifier.PUBLIC | Modifier.FINAL);
        CHECKS.end();
    }

    private static void membersAreTheFace() {
        Set<String> seen = new TreeSet<>();
        for (Constructor<?> constructor : LiftedTile.class.getDeclaredConstructors()) {
            addIfSeen(seen, constructor.getModifiers(), constructor.toString());
        }
        for (Method method : LiftedTile.class.getDeclaredMethods()) {
            addIfSeen(seen, method.getModifiers(), method.toString());
        }
        for (Field field : LiftedTile.class.getDeclaredFields()) {
            addIfSeen(seen, field.getModifiers(), field.toString());
        }
        CHECKS.due("the members seen from outside", seen.toString(), new TreeSet<>(FACE).toString());
    }

    private static void addIfSeen(Set<String> seen, int modifiers, String member) {
        if (!Modifier.isPrivate(modifiers)) {
            seen.add(member);
        }
    }

    private static void namesOfTheFaceAreUsedOnce() {
        Set<String> names = new TreeSet<>();
        for (Method method : LiftedTile.class.getMethods()) {
            names.add(method.getName());
        }
        for (Method method : LiftedTile.class.getDeclaredMethods()) {
            boolean isDouble = Modifier.isPrivate(method.getModifiers()) && names.contains(method.getName());
            CHECKS.due("a private method named as a public one: " + method, isDouble, false);
        }
    }

    private static void classesAreNotSeenFromOutside() {
        for (Class<?> inside : LiftedTile.class.getDeclaredClasses()) {
            int modifiers = inside.getModifiers();
            boolean isSeen = Modifier.isPublic(modifiers) || Modifier.isProtected(modifiers);
            CHECKS.due("seen from outside: " + inside, isSeen, false);
            boolean isPrivateOrStatic = Modifier.isPrivate(modifiers) || Modifier.isStatic(modifiers);
            CHECKS.due("private, or static: " + inside, isPrivateOrStatic, true);
        }
    }
}
