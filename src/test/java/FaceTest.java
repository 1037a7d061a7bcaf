import java.lang.reflect.Array;
import java.lang.reflect.Constructor;
import java.lang.reflect.Field;
import java.lang.reflect.Method;
import java.lang.reflect.Modifier;
import java.nio.file.Files;
import java.nio.file.Path;
import java.util.ArrayList;
import java.util.IdentityHashMap;
import java.util.List;
import java.util.TreeSet;

/** The public face of the document, and those rules of LANGUAGE.md that a look at the class and its text can tell. */
public final class FaceTest {
    private static final String[] FACE = {"int parameter int", "int operation int int int", "int handler int int int int", "int make",
        "int fault", "int kind int int", "int size int", "int frame int int", "int plant int int int", "int judge", "int packed",
        "int out int", "long argument int long", "int run int", "long told int", "int count int", "int clear"};
    private static final String[] RULED_OUT = {"->", "::", "catch", "finally", "synchronized", "assert ", "Exact", "System.out", "Random",
        "static {", "import java.io", "Object ", "@", "toString", "hashCode", "getMessage", "double", "float"};

    public static void main(String[] args) throws Exception {
        constants();
        members();
        nested();
        text();
        room();
        Due.end();
    }

    private static void constants() {
        Due.is("NONE", ClassFrames.NONE, -1);
        Due.is("BAD", ClassFrames.BAD, -2);
        Due.is("STATE", ClassFrames.STATE, -3);
        Due.is("FULL", ClassFrames.FULL, -4);
    }

    private static void members() throws Exception {
        Due.is("the class", ClassFrames.class.getModifiers(), Modifier.PUBLIC | Modifier.FINAL);
        Constructor<?>[] makers = ClassFrames.class.getDeclaredConstructors();
        Due.is("constructors", makers.length, 1);
        Due.is("the constructor", makers[0].getModifiers() * 10 + makers[0].getParameterCount(), Modifier.PUBLIC * 10);
        TreeSet<String> seen = new TreeSet<>();
        List<String> names = new ArrayList<>();
        for (Method m : ClassFrames.class.getDeclaredMethods()) {
            if (Modifier.isPrivate(m.getModifiers())) {
                names.add(m.getName());
                continue;
            }
            StringBuilder face = new StringBuilder(m.getReturnType() + " " + m.getName());
            for (Class<?> type : m.getParameterTypes()) {
                face.append(' ').append(type);
            }
            seen.add(face.toString());
            Due.is(face + " is public", m.getModifiers(), Modifier.PUBLIC);
        }
        Due.holds("the methods are those of the document: " + seen, seen.equals(new TreeSet<>(List.of(FACE))));
        for (String name : names) {
            Due.holds(name + " is no public name", seen.stream().noneMatch(f -> f.split(" ")[1].equals(name)));
        }
        Due.holds("out tells what it throws",
                ClassFrames.class.getMethod("out", int.class).getExceptionTypes()[0] == ArrayIndexOutOfBoundsException.class);
        for (Field f : ClassFrames.class.getDeclaredFields()) {
            boolean constant = List.of("NONE", "BAD", "STATE", "FULL").contains(f.getName());
            int due = Modifier.PUBLIC | Modifier.STATIC | Modifier.FINAL;
            Due.holds(f + " is of the face, or private", constant ? f.getModifiers() == due : Modifier.isPrivate(f.getModifiers()));
        }
    }

    private static void nested() {
        Class<?>[] all = ClassFrames.class.getDeclaredClasses();
        Due.holds("at most twelve classes", all.length + 1 <= 12);
        for (Class<?> one : all) {
            Due.holds(one + " is static", Modifier.isStatic(one.getModifiers()));
            Due.holds(one + " is not public", !Modifier.isPublic(one.getModifiers()) && !Modifier.isProtected(one.getModifiers()));
            int fields = 0;
            for (Field f : one.getDeclaredFields()) {
                boolean isStatic = Modifier.isStatic(f.getModifiers());
                fields += isStatic ? 0 : 1;
                Due.holds(f + ": static ones are final", !isStatic || Modifier.isFinal(f.getModifiers()));
            }
            Due.holds(one + " has at most twenty fields", fields <= 20);
            for (Method m : one.getDeclaredMethods()) {
                Due.holds(m + " takes at most seven", m.getParameterCount() <= 7);
                for (String face : FACE) {
                    Due.holds(m + " has no name of the face", !face.split(" ")[1].equals(m.getName()));
                }
            }
        }
    }

    private static void text() throws Exception {
        String text = Files.readString(Path.of("src/main/java/ClassFrames.java")).replaceAll("(?s)/\\*.*?\\*/|//[^\n]*", "");
        for (String word : RULED_OUT) {
            Due.holds("no '" + word + "' in the text", !text.contains(word));
        }
        Due.is("one throw", text.split("throw new ", -1).length - 1, 1);
        for (String line : text.split("\n")) {
            boolean makes = line.contains("new ") && !line.contains("throw new ");
            boolean once = line.matches(" +private final .* = new .*;|        (code|frames|maker|judge|packer|machine) = new .*;");
            Due.holds("made once with the object: " + line.trim(), !makes || once);
        }
        Due.is("one import", text.split("import ", -1).length - 1, 1);
    }

    /** All rows are made with the object: it has as many objects and elements behind its dearest calls as it had ahead of them. */
    private static void room() throws Exception {
        ClassFrames x = new ClassFrames();
        int[] before = held(x, new IdentityHashMap<>());
        Due.holds("objects and arrays of one: " + before[0], before[0] <= 60);
        Due.holds("fields and elements of one: " + before[1], before[1] <= 10000);
        for (int i = 0; i < 8; i++) {
            x.parameter(6);
        }
        while (x.count(0) < 60) {
            x.operation(24, (x.count(0) + 1) % 60, 0);
        }
        for (int i = 0; i < 100; i++) {
            x.make();
            x.judge();
            x.packed();
            x.run(300);
        }
        int[] after = held(x, new IdentityHashMap<>());
        Due.is("objects and arrays behind 400 calls", after[0], before[0]);
        Due.is("fields and elements behind 400 calls", after[1], before[1]);
    }

    private static int[] held(Object one, IdentityHashMap<Object, Object> seen) throws Exception {
        int[] all = {0, 0};
        if (one == null || seen.put(one, one) != null) {
            return all;
        }
        all[0]++;
        if (one.getClass().isArray()) {
            all[1] += Array.getLength(one);
            return all;
        }
        for (Field f : one.getClass().getDeclaredFields()) {
            if (!Modifier.isStatic(f.getModifiers())) {
                all[1]++;
                f.setAccessible(true);
                int[] more = f.getType().isPrimitive() ? new int[2] : held(f.get(one), seen);
                all[0] += more[0];
                all[1] += more[1];
            }
        }
        return all;
    }
}
