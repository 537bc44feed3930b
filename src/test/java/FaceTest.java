import java.lang.reflect.Constructor;
import java.lang.reflect.Executable;
import java.lang.reflect.Field;
import java.lang.reflect.Method;
import java.lang.reflect.Modifier;
import java.util.ArrayList;
import java.util.List;
import java.util.TreeSet;

/** The public face, as the document shows it, and nothing else that can be seen from outside. */
public final class FaceTest {
    private static final String FACE = """
        public TileServer();
        public int addLine(int x1, int y1, int x2, int y2) throws IllegalArgumentException, IllegalStateException;
        public int extend(int line, int x, int y) throws NoSuchElementException, UnsupportedOperationException, IllegalArgumentException, IllegalStateException;
        public int movePoint(int line, int index, int x, int y) throws NoSuchElementException, UnsupportedOperationException, IndexOutOfBoundsException, IllegalArgumentException;
        public int dropPoint(int line, int index) throws NoSuchElementException, UnsupportedOperationException, IndexOutOfBoundsException, IllegalStateException;
        public int addArea(int x, int y, int reach, int cut) throws IllegalArgumentException, IllegalStateException;
        public int moveArea(int area, int dx, int dy) throws NoSuchElementException, UnsupportedOperationException, IllegalArgumentException;
        public int remove(int shape) throws NoSuchElementException;
        public int setLabel(int shape, int width, int rank) throws NoSuchElementException, IllegalArgumentException;
        public int setTolerance(int level, int tolerance) throws IndexOutOfBoundsException, IllegalArgumentException;
        public int pass(int ticks) throws IllegalArgumentException;
        public int clock();
        public int shapes();
        public char kindOf(int shape) throws NoSuchElementException;
        public int points(int line) throws NoSuchElementException, UnsupportedOperationException;
        public int xOf(int line, int index) throws NoSuchElementException, UnsupportedOperationException, IndexOutOfBoundsException;
        public int yOf(int line, int index) throws NoSuchElementException, UnsupportedOperationException, IndexOutOfBoundsException;
        public boolean isKept(int line, int level, int index) throws NoSuchElementException, UnsupportedOperationException, IndexOutOfBoundsException;
        public boolean isKeptByMarks(int line, int level, int index) throws NoSuchElementException, UnsupportedOperationException, IndexOutOfBoundsException;
        public int keptPoints(int line, int level) throws NoSuchElementException, UnsupportedOperationException, IndexOutOfBoundsException;
        public int cellAt(int level, int column, int row, int x, int y) throws IndexOutOfBoundsException;
        public int cellByDrawing(int level, int column, int row, int x, int y) throws IndexOutOfBoundsException;
        public boolean isCached(int level, int column, int row) throws IndexOutOfBoundsException;
        public int ageOf(int level, int column, int row) throws IndexOutOfBoundsException, NoSuchElementException;
        public int cached();
        public int misses();
        public float hitShare() throws ArithmeticException;
        public int areaIn(int area, int level, int column, int row) throws NoSuchElementException, UnsupportedOperationException, IndexOutOfBoundsException;
        public int areaByQuarters(int area, int level, int column, int row) throws NoSuchElementException, UnsupportedOperationException, IndexOutOfBoundsException;
        public int crossesRight(int line, int level, int column, int row) throws NoSuchElementException, UnsupportedOperationException, IndexOutOfBoundsException;
        public int crossesLeft(int line, int level, int column, int row) throws NoSuchElementException, UnsupportedOperationException, IndexOutOfBoundsException;
        public int segmentsIn(int level, int column, int row) throws IndexOutOfBoundsException;
        public char placeOf(int shape, int level) throws NoSuchElementException, IllegalStateException, IndexOutOfBoundsException;
        public int labelLeft(int shape, int level) throws NoSuchElementException, IllegalStateException, IndexOutOfBoundsException;
        public int labelLow(int shape, int level) throws NoSuchElementException, IllegalStateException, IndexOutOfBoundsException;
        public int shownLabels(int level) throws IndexOutOfBoundsException;
        public long drawn();
        public double meanKept(int level) throws IndexOutOfBoundsException, ArithmeticException;
        public boolean isFresh();
        """;

    private static final Check CHECK = new Check();

    public static void main(String[] args) {
        CHECK.same("the class", Modifier.toString(TileServer.class.getModifiers()), "public final");
        CHECK.same("the public face", publicFace(), facesOfTheDocument());
        CHECK.same("what is neither public nor private", neitherPublicNorPrivate(), List.of());
        CHECK.same("names that are public and private", namesOfBoth(), new TreeSet<>());
        CHECK.end();
    }

    /** Leaves the names of the parameters away, which a compiled class does not have. */
    private static TreeSet<String> facesOfTheDocument() {
        TreeSet<String> faces = new TreeSet<>();
        FACE.lines().forEach(line -> faces.add(line.strip().replace(";", "").replaceAll("(int) \\w+(?=[,)])", "$1")));
        return faces;
    }

    private static TreeSet<String> publicFace() {
        TreeSet<String> faces = new TreeSet<>();
        for (Constructor<?> constructor : TileServer.class.getConstructors()) {
            faces.add("public " + signature(constructor));
        }
        for (Method method : TileServer.class.getDeclaredMethods()) {
            if (Modifier.isPublic(method.getModifiers())) {
                faces.add(Modifier.toString(method.getModifiers()) + " " + method.getReturnType() + " " + signature(method));
            }
        }
        return faces;
    }

    private static String signature(Executable of) {
        String text = of.getName() + "(" + names(of.getParameterTypes()) + ")";
        return of.getExceptionTypes().length == 0 ? text : text + " throws " + names(of.getExceptionTypes());
    }

    private static String names(Class<?>[] types) {
        List<String> names = new ArrayList<>();
        for (Class<?> type : types) {
            names.add(type.getSimpleName());
        }
        return String.join(", ", names);
    }

    private static List<String> neitherPublicNorPrivate() {
        List<String> found = new ArrayList<>();
        for (Field field : TileServer.class.getDeclaredFields()) {
            if (!Modifier.isPrivate(field.getModifiers())) {
                found.add(field.toString());
            }
        }
        for (Method method : TileServer.class.getDeclaredMethods()) {
            if (!Modifier.isPrivate(method.getModifiers()) && !Modifier.isPublic(method.getModifiers())) {
                found.add(method.toString());
            }
        }
        return found;
    }

    private static TreeSet<String> namesOfBoth() {
        TreeSet<String> privates = new TreeSet<>();
        TreeSet<String> publics = new TreeSet<>();
        List<Class<?>> classes = new ArrayList<>(List.of(TileServer.class.getDeclaredClasses()));
        classes.add(TileServer.class);
        for (Class<?> each : classes) {
            for (Method method : each.getDeclaredMethods()) {
                (Modifier.isPublic(method.getModifiers()) ? publics : privates).add(method.getName());
            }
        }
        privates.retainAll(publics);
        return privates;
    }
}
