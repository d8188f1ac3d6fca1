import java.lang.reflect.Constructor;
import java.lang.reflect.Field;
import java.lang.reflect.Method;
import java.lang.reflect.Modifier;
import java.util.ArrayList;
import java.util.List;
import java.util.TreeSet;

/** The public face is the document's, and what is inside keeps to LANGUAGE.md as far as reflection tells. */
public final class FaceTest {
    private static final Due due = new Due("FaceTest");

    private static final String[] FACE = {
        "int stone 3", "int ofStone 2", "int law 4", "int rule 1", "int waves 4", "int shift 1", "int wave 1",
        "int toss 5", "int touch 2", "int judge 1", "int line 3", "int best 7", "int grid 2", "long odds 8",
        "int narrow 7", "int rings 4", "int read 6", "int there 7", "int when 5", "int beach 3", "long mean 2",
        "int hours 1", "int sheet 3", "int lose 1", "int put 3", "long cell 3", "int copy 5", "int tell 1",
        "int hear 1", "int as 2", "int trace 0", "int fault 0", "int many 1"};

    public static void main(String[] args) throws Exception {
        constants();
        methods();
        members();
        for (Class<?> inside : SkipStones.class.getDeclaredClasses()) {
            insideClass(inside);
        }
        due.end();
    }

    private static void holds(String what, boolean so) {
        due.is(what, so ? 1 : 0, 1);
    }

    private static void constants() throws Exception {
        String[] names = {"UNKNOWN", "OUTSIDE", "STATE", "FULL", "NONE", "LOST"};
        long[] values = {-1, -2, -3, -4, -9, Long.MIN_VALUE};
        for (int c = 0; c < names.length; c++) {
            Field field = SkipStones.class.getField(names[c]);
            due.is(names[c], field.getLong(null), values[c]);
            holds(names[c] + "'s type", field.getType() == (c == 5 ? long.class : int.class));
        }
        due.is("as many public fields", SkipStones.class.getFields().length, names.length);
    }

    private static void methods() {
        TreeSet<String> want = new TreeSet<>(List.of(FACE));
        for (Method method : SkipStones.class.getDeclaredMethods()) {
            if (Modifier.isPublic(method.getModifiers())) {
                String row = method.getReturnType() + " " + method.getName() + " " + method.getParameterCount();
                holds(row + " is of the face", want.remove(row));
                for (Class<?> type : method.getParameterTypes()) {
                    holds(row + " takes ints", type == int.class);
                }
            }
        }
        due.is("methods that are missing " + want, want.size(), 0);
        Constructor<?>[] made = SkipStones.class.getDeclaredConstructors();
        due.is("one constructor", made.length, 1);
        holds("it is public, of nothing", Modifier.isPublic(made[0].getModifiers()) && made[0].getParameterCount() == 0);
        holds("the class is final", Modifier.isFinal(SkipStones.class.getModifiers()));
        holds("there is no package", SkipStones.class.getPackageName().isEmpty());
    }

    private static boolean isHidden(int modifiers) {
        return Modifier.isPrivate(modifiers);
    }

    private static void members() {
        List<String> publicNames = new ArrayList<>();
        for (String row : FACE) {
            publicNames.add(row.split(" ")[1]);
        }
        for (Method method : SkipStones.class.getDeclaredMethods()) {
            boolean isPublic = Modifier.isPublic(method.getModifiers());
            holds(method.getName() + " is public or private", isPublic || isHidden(method.getModifiers()));
            holds(method.getName() + " has no public one's name", isPublic || !publicNames.contains(method.getName()));
            holds(method.getName() + " takes at most seven", isPublic || method.getParameterCount() <= 7);
        }
        for (Field field : SkipStones.class.getDeclaredFields()) {
            int modifiers = field.getModifiers();
            boolean isConstant = Modifier.isPublic(modifiers) && Modifier.isStatic(modifiers);
            holds(field.getName() + " is a constant or private", isConstant || isHidden(modifiers));
        }
        fieldsOf(SkipStones.class);
        for (Class<?> inside : SkipStones.class.getDeclaredClasses()) {
            for (Method method : inside.getDeclaredMethods()) {
                holds(inside + " " + method.getName() + " has no public one's name",
                    !publicNames.contains(method.getName()));
            }
        }
    }

    private static void fieldsOf(Class<?> type) {
        int own = 0;
        for (Field field : type.getDeclaredFields()) {
            if (Modifier.isStatic(field.getModifiers())) {
                holds(field.getName() + " is final", Modifier.isFinal(field.getModifiers()));
            } else {
                own++;
            }
        }
        holds(type + " has at most twenty fields", own <= 20);
    }

    private static void insideClass(Class<?> inside) {
        int modifiers = inside.getModifiers();
        holds(inside + " is static", Modifier.isStatic(modifiers));
        holds(inside + " is private or of the package", !Modifier.isPublic(modifiers) && !Modifier.isProtected(modifiers));
        for (Method method : inside.getDeclaredMethods()) {
            holds(inside + " " + method.getName() + " takes at most seven", method.getParameterCount() <= 7);
        }
        fieldsOf(inside);
        due.is("classes inside those", inside.getDeclaredClasses().length, 0);
    }
}
