import java.lang.reflect.Constructor;
import java.lang.reflect.Field;
import java.lang.reflect.Method;
import java.lang.reflect.Modifier;
import java.util.TreeSet;

/** "The public face": one final class with just these methods, and nothing else that is seen from outside. */
public final class FaceTests {
    public static void main(String[] args) {
        theClass();
        theConstructor();
        methods();
        nothingElse();
        kindsAreWhole();
        example();
        Check.end();
    }

    private static void theClass() {
        Class<?> face = Mapgraph.class;
        Check.due("the class", Modifier.toString(face.getModifiers()) + " class " + face.getName(),
                "public final class Mapgraph");
        Check.due("what it extends", face.getSuperclass().getName(), "java.lang.Object");
        Check.due("how many it implements", face.getInterfaces().length, 0);
        Check.due("type parameters", face.getTypeParameters().length, 0);
    }

    private static void theConstructor() {
        Constructor<?>[] all = Mapgraph.class.getDeclaredConstructors();
        Check.due("constructors", all.length, 1);
        for (Constructor<?> constructor : all) {
            Check.due("the constructor", constructor.toString(), "public Mapgraph()");
        }
    }

    /** Each line of the face is there, with its exceptions in their order; none is there but these. */
    private static void methods() {
        TreeSet<String> due = new TreeSet<>();
        for (String line : Face.METHODS) {
            due.add("public " + line);
        }
        TreeSet<String> got = new TreeSet<>();
        for (Method method : Mapgraph.class.getDeclaredMethods()) {
            if (Modifier.isPublic(method.getModifiers())) {
                got.add(told(method));
            }
        }
        Check.due("how many methods", due.size(), 56);
        for (String line : due) {
            Check.due(line + " is there", got.contains(line), true);
        }
        for (String line : got) {
            Check.due(line + " is in the face", due.contains(line), true);
        }
    }

    private static String told(Method method) {
        String simple = method.toString().replace("java.lang.", "").replace("Mapgraph.", "");
        return simple.replace(",", ", ");
    }

    /** LANGUAGE.md, rule 1. */
    private static void nothingElse() {
        TreeSet<String> names = new TreeSet<>();
        for (String line : Face.METHODS) {
            names.add(line.substring(line.indexOf(' ') + 1, line.indexOf('(')));
        }
        for (Method method : Mapgraph.class.getDeclaredMethods()) {
            int signs = method.getModifiers();
            Check.due(method + " is public or private", Modifier.isPublic(signs) || Modifier.isPrivate(signs), true);
            boolean isTwice = !Modifier.isPublic(signs) && names.contains(method.getName());
            Check.due(method + " has the name of a public one", isTwice, false);
        }
        for (Field field : Mapgraph.class.getDeclaredFields()) {
            int signs = field.getModifiers();
            Check.due(field + " is private", Modifier.isPrivate(signs), true);
            Check.due(field + " is static and not final", Modifier.isStatic(signs) && !Modifier.isFinal(signs), false);
        }
        for (Class<?> inside : Mapgraph.class.getDeclaredClasses()) {
            int signs = inside.getModifiers();
            Check.due(inside + " is seen outside", Modifier.isPublic(signs) || Modifier.isProtected(signs), false);
            Check.due(inside + " is static", Modifier.isStatic(signs), true);
        }
    }

    /** The tables of arguments, which other tests go by, name each method once, with as many arguments as it has. */
    private static void kindsAreWhole() {
        TreeSet<String> left = new TreeSet<>();
        for (String line : Face.METHODS) {
            String name = line.substring(line.indexOf(' ') + 1, line.indexOf('('));
            String inside = line.substring(line.indexOf('(') + 1, line.indexOf(')'));
            left.add(name + " " + (inside.isEmpty() ? 0 : inside.split(", ").length));
        }
        for (String[] table : new String[][] {Face.ACTS, Face.ASKS}) {
            for (String line : table) {
                String[] kinds = line.split(" ");
                Check.due(line + " is in the face", left.remove(kinds[0] + " " + (kinds.length - 1)), true);
            }
        }
        Check.due("methods without a table", String.join(", ", left), "");
    }

    /** What README.md shows. */
    private static void example() {
        Mapgraph x = new Mapgraph();
        Check.due("example: settle", x.settle(0, 1, 4, 1), 4);
        Check.due("example: ring", x.ring(0, 1, 10, 5), 4);
        Check.due("example: nearWay", x.nearWay(0, 1, 3), "1-2-3");
        Check.due("example: near", x.near(0, 1, 3), 25);
        Check.due("example: treeLines", x.treeLines(0), "1-2 2-3 3-4");
        Check.due("example: cut", x.cut(0, 1, 3, true), "1>2 4>3");
        Check.due("example: beside", x.beside(0, 1, 4, 3), -1);
        Check.due("example: step", x.step(), -9);
        Check.noIndex(x, "example: raze", () -> x.raze(0, 7));
    }
}
