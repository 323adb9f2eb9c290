import java.lang.reflect.Constructor;
import java.lang.reflect.Field;
import java.lang.reflect.Method;
import java.lang.reflect.Modifier;
import java.util.Map;
import java.util.Set;
import java.util.TreeMap;
import java.util.TreeSet;

/** The public face: what the document has, and no other member that is not private. */
public final class FaceTest {
    private static final String[] METHODS = {
        "int begin(int,int)", "int addArc(int,int,int)", "int removeArc(int)", "int setCost(int,int)",
        "int setRoot(int)", "int setLimit(int,int)", "int addRandom(int,int)", "int nodes()", "int root()",
        "int arcs()", "int arc(int,int)", "int limit(int)", "int undo()", "int write(int)", "int wipe()",
        "int fault()", "int load()", "int isRecorded()", "int runs()", "int reuses()", "int cost()",
        "int enteringArc(int)", "int outDegree(int)", "int groups()", "int group(int,int)",
        "int reducedCost(int)", "int costWithout(int)", "int costWith(int)", "int slack(int)",
        "int secondBest(int)", "int necessary(int)", "int limitedCost()", "int limitedArc(int)",
        "int priceBound(int,int)", "int price(int,int,int)", "long arborescences()",
        "long arborescencesWith(int)", "int save(int)", "int restore(int)"};

    private static int wrong;

    private static void due(String what, Object got, Object want) {
        if (!got.equals(want)) {
            wrong++;
            System.out.println(what + " is " + got + ", due is " + want);
        }
    }

    public static void main(String[] args) throws Exception {
        Class<?> face = ArborescenceFinder.class;
        due("public final class", face.getModifiers(), Modifier.PUBLIC | Modifier.FINAL);
        due("package", face.getPackageName(), "");
        constants(face);
        constructors(face);
        methods(face);
        classesInside(face);
        staticFields(face);
        sizes(face);
        for (Class<?> inside : face.getDeclaredClasses()) {
            staticFields(inside);
            sizes(inside);
        }
        System.out.println(wrong == 0 ? "the face is as due" : wrong + " members are not as due");
        if (wrong != 0) {
            System.exit(1);
        }
    }

    private static void constants(Class<?> face) throws Exception {
        Map<String, Integer> want = new TreeMap<>(Map.of("BAD_NODE", -101, "BAD_ARC", -102, "BAD_VALUE", -103,
                "FULL", -104, "NOT_POSSIBLE", -105, "NO_ARBORESCENCE", -106, "NONE", -107));
        Map<String, Integer> got = new TreeMap<>();
        for (Field field : face.getDeclaredFields()) {
            if (Modifier.isPrivate(field.getModifiers())) {
                continue;
            }
            due(field.getName(), field.getModifiers(), Modifier.PUBLIC | Modifier.STATIC | Modifier.FINAL);
            due(field.getName(), field.getType(), int.class);
            got.put(field.getName(), field.getInt(null));
        }
        due("constants", got, want);
    }

    private static void constructors(Class<?> face) {
        Constructor<?>[] all = face.getDeclaredConstructors();
        due("constructors", all.length, 1);
        due("constructor", all[0].getModifiers(), Modifier.PUBLIC);
        due("constructor", all[0].getParameterCount(), 0);
    }

    private static void methods(Class<?> face) {
        Set<String> got = new TreeSet<>();
        Set<String> publicNames = new TreeSet<>();
        for (Method method : face.getDeclaredMethods()) {
            if (!Modifier.isPrivate(method.getModifiers())) {
                due(method.getName(), method.getModifiers(), Modifier.PUBLIC);
                got.add(told(method));
                publicNames.add(method.getName());
            }
        }
        due("methods", got, new TreeSet<>(Set.of(METHODS)));
        for (Method method : face.getDeclaredMethods()) {
            if (Modifier.isPrivate(method.getModifiers())) {
                due("private " + method.getName(), publicNames.contains(method.getName()), false);
            }
        }
    }

    private static String told(Method method) {
        StringBuilder told = new StringBuilder();
        told.append(method.getReturnType()).append(' ').append(method.getName()).append('(');
        String comma = "";
        for (Class<?> type : method.getParameterTypes()) {
            told.append(comma).append(type);
            comma = ",";
        }
        return told.append(')').toString();
    }

    private static void classesInside(Class<?> face) {
        due("at most twelve classes", face.getDeclaredClasses().length <= 11, true);
        for (Class<?> inside : face.getDeclaredClasses()) {
            due(inside + " is static", Modifier.isStatic(inside.getModifiers()), true);
            due(inside + " is public", Modifier.isPublic(inside.getModifiers()), false);
            due(inside + " is protected", Modifier.isProtected(inside.getModifiers()), false);
            due(inside + " has no classes inside", inside.getDeclaredClasses().length, 0);
        }
    }

    private static void staticFields(Class<?> any) {
        Set<Class<?>> allowed = Set.of(int.class, long.class, boolean.class, char.class, String.class,
                int[].class, long[].class, char[].class, byte[].class);
        for (Field field : any.getDeclaredFields()) {
            if (Modifier.isStatic(field.getModifiers())) {
                due(field + " is final", Modifier.isFinal(field.getModifiers()), true);
                due(field + " is of a type for constants", allowed.contains(field.getType()), true);
            }
        }
    }

    private static void sizes(Class<?> any) {
        int fields = 0;
        for (Field field : any.getDeclaredFields()) {
            fields += Modifier.isStatic(field.getModifiers()) ? 0 : 1;
        }
        due(any + " has at most 20 fields", fields <= 20, true);
        for (Method method : any.getDeclaredMethods()) {
            due(method + " has at most 7 parameters", method.getParameterCount() <= 7, true);
        }
    }
}
