import java.lang.reflect.Constructor;
import java.lang.reflect.Field;
import java.lang.reflect.Method;
import java.lang.reflect.Modifier;
import java.util.Set;
import java.util.TreeSet;

/** Promises 1 and 25, the constants, and what the language's rules 1, 5 and 11 ask of the face. */
final class FaceTest {
    private static final Due DUE = new Due("FaceTest");
    private static final String[] FACE = {
        "sheet 1", "read 3", "reading 2", "across 1", "along 2", "groups 0", "take 0", "clear 0", "laws 2", "spread 2",
        "base 2", "set 2", "about 2", "uneven 1", "best 1", "kind 3", "canLie 2", "cut 0", "cutAt 1", "grade 0",
        "cost 3", "tour 1", "tourAt 2", "told 1"};
    private static final Set<String> CONSTANTS =
        Set.of("NONE", "UNKNOWN", "OUTSIDE", "STATE", "FULL", "NO", "LOST");

    public static void main(String[] args) {
        constants();
        newObject();
        toldTellsAll();
        objectsAreApart();
        faceIsTheDocuments();
        nestedClassesAreStatic();
        DUE.end();
    }

    private static void constants() {
        DUE.is("NONE", BroadSheet.NONE, -6);
        DUE.is("UNKNOWN", BroadSheet.UNKNOWN, -1);
        DUE.is("OUTSIDE", BroadSheet.OUTSIDE, -2);
        DUE.is("STATE", BroadSheet.STATE, -3);
        DUE.is("FULL", BroadSheet.FULL, -4);
        DUE.is("NO", BroadSheet.NO, -5);
        DUE.is("LOST", BroadSheet.LOST, -1000000);
    }

    private static void newObject() {
        BroadSheet x = new BroadSheet();
        int[] first = {8, 0, 0, 0, 0, 20, 40, 10, 0};
        for (int what = 0; what < first.length; what++) {
            DUE.is("told(" + what + ")", x.told(what), first[what]);
        }
        for (int p = 0; p < 8; p++) {
            for (int what = 0; what < 3; what++) {
                DUE.is("about(" + p + ", " + what + ")", x.about(p, what), 0);
            }
            DUE.is("cutAt(" + p + ")", x.cutAt(p), -6);
        }
        DUE.is("groups()", x.groups(), 8);
        DUE.is("cut()", x.cut(), 0);
        DUE.is("clear()", x.clear(), 0);
        DUE.is("take()", x.take(), -5);
        x.grade();
        x.grade();
        DUE.is("a first cost", x.cost(1, 0, 3), 100);
    }

    private static void toldTellsAll() {
        BroadSheet x = new BroadSheet();
        x.sheet(11);
        x.read(0, 0, 1);
        x.read(0, 0, 2);
        x.read(1, 0, 2);
        x.kind(1, 1, 1);
        x.grade();
        x.grade();
        x.laws(6, 7);
        x.spread(9, -2);
        int[] want = {11, 3, 2, 1, 2, 6, 7, 9, -2};
        for (int what = 0; what < want.length; what++) {
            DUE.is("told(" + what + ")", x.told(what), want[what]);
        }
        for (int what : new int[] {-1, 9, Integer.MIN_VALUE, Integer.MAX_VALUE}) {
            DUE.is("told(" + what + ")", x.told(what), -1002);
        }
    }

    private static void objectsAreApart() {
        BroadSheet x = new BroadSheet();
        BroadSheet y = new BroadSheet();
        x.sheet(4);
        x.base(0, 100);
        x.read(0, 0, 1);
        x.grade();
        DUE.is("places of the other", y.told(0), 8);
        DUE.is("base of the other", y.about(0, 1), 0);
        DUE.is("readings of the other", y.told(1), 0);
        DUE.is("grades of the other", y.told(4), 0);
    }

    private static void faceIsTheDocuments() {
        DUE.holds("public final class", Modifier.isPublic(BroadSheet.class.getModifiers())
            && Modifier.isFinal(BroadSheet.class.getModifiers()));
        Set<String> open = new TreeSet<>();
        Set<String> names = new TreeSet<>();
        for (Method m : BroadSheet.class.getDeclaredMethods()) {
            if (!Modifier.isPrivate(m.getModifiers())) {
                open.add(m.getName() + " " + m.getParameterCount());
                names.add(m.getName());
                DUE.holds(m.getName() + " is public, of the object, and answers int", Modifier.isPublic(m.getModifiers())
                    && !Modifier.isStatic(m.getModifiers()) && m.getReturnType() == int.class);
            }
        }
        DUE.holds("methods are those of the document: " + open, open.equals(Set.of(FACE)));
        for (Method m : BroadSheet.class.getDeclaredMethods()) {
            DUE.holds(m.getName() + ", private, bears a public name",
                !Modifier.isPrivate(m.getModifiers()) || !names.contains(m.getName()));
        }
        Constructor<?>[] made = BroadSheet.class.getDeclaredConstructors();
        DUE.holds("one public constructor without arguments",
            made.length == 1 && Modifier.isPublic(made[0].getModifiers()) && made[0].getParameterCount() == 0);
        for (Field f : BroadSheet.class.getDeclaredFields()) {
            DUE.holds("field " + f.getName() + " is private or one of the document's constants",
                Modifier.isPrivate(f.getModifiers()) || CONSTANTS.contains(f.getName()));
        }
    }

    private static void nestedClassesAreStatic() {
        for (Class<?> c : BroadSheet.class.getDeclaredClasses()) {
            int is = c.getModifiers();
            DUE.holds(c.getName() + " is static and not public",
                Modifier.isStatic(is) && !Modifier.isPublic(is) && !Modifier.isProtected(is));
            int fields = 0;
            for (Field f : c.getDeclaredFields()) {
                boolean fixed = Modifier.isStatic(f.getModifiers());
                DUE.holds(c.getName() + "." + f.getName() + " is static, so it is final",
                    !fixed || Modifier.isFinal(f.getModifiers()));
                fields += fixed ? 0 : 1;
            }
            DUE.holds(c.getName() + " has at most twenty fields", fields <= 20);
        }
    }
}
