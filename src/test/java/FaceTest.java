import java.io.IOException;
import java.lang.reflect.Constructor;
import java.lang.reflect.Field;
import java.lang.reflect.Method;
import java.lang.reflect.Modifier;
import java.util.ArrayList;
import java.util.Arrays;
import java.util.List;
import java.util.TreeSet;

/** The public face is the document's, and nothing else can be seen from outside. */
public final class FaceTest {
    private static final String[] FACE = {
        "int append(int) IllegalArgumentException IllegalStateException",
        "int clearText()",
        "int errorPosition()",
        "int load() IllegalStateException",
        "int about(int) IllegalArgumentException",
        "int level(int,int) IndexOutOfBoundsException IllegalArgumentException",
        "int button(int,int,int) IndexOutOfBoundsException IllegalArgumentException",
        "boolean isSkipped(int) IllegalArgumentException",
        "int named(int,int) IllegalArgumentException",
        "int add(int,int) IndexOutOfBoundsException IllegalArgumentException"
            + " IllegalStateException",
        "int remove(int) IndexOutOfBoundsException IllegalStateException",
        "int kind(int,int) IndexOutOfBoundsException IllegalArgumentException"
            + " IllegalStateException",
        "int ground(int) IndexOutOfBoundsException IllegalStateException",
        "int skip(int,boolean) IllegalArgumentException",
        "int serve(int,int,boolean) IndexOutOfBoundsException",
        "int putSign(int) IndexOutOfBoundsException",
        "int putButton(int,int) IndexOutOfBoundsException",
        "int putCar(int) IndexOutOfBoundsException",
        "int exchange(int,int,int) IndexOutOfBoundsException",
        "int undo() IllegalStateException",
        "int goes(int,int,int) IndexOutOfBoundsException",
        "int astray(int) IndexOutOfBoundsException",
        "int rides(int,int) IndexOutOfBoundsException",
        "int ifSkipped(int) IllegalArgumentException",
        "int bestSkip()",
        "int ifAdded(int,int) IndexOutOfBoundsException IllegalArgumentException"
            + " IllegalStateException",
        "int worst()",
        "int runScript(int,long) IllegalArgumentException",
        "int simulate(long,int) IllegalArgumentException",
        "int save(int) IndexOutOfBoundsException",
        "int restore(int) IndexOutOfBoundsException IllegalStateException",
    };

    private static final Check check = new Check();

    public static void main(String[] args) throws IOException {
        check.is("NONE", FloorPanels.NONE, -1);
        check.is("the class is public and final",
                FloorPanels.class.getModifiers(), Modifier.PUBLIC | Modifier.FINAL);
        methods();
        fields();
        constructors();
        classesInside();
        if (Document.isThere()) {
            asTheDocumentWritesIt(new Document());
        } else {
            System.out.println("../shared/DOC.md is not there: the face is not compared with it");
        }
        check.end();
    }

    private static void methods() {
        TreeSet<String> due = new TreeSet<>(Arrays.asList(FACE));
        TreeSet<String> publicNames = new TreeSet<>();
        TreeSet<String> got = new TreeSet<>();
        for (Method m : FloorPanels.class.getDeclaredMethods()) {
            if (Modifier.isPublic(m.getModifiers())) {
                got.add(told(m));
                publicNames.add(m.getName());
            } else if (!Modifier.isPrivate(m.getModifiers())) {
                check.tell("a method is neither public nor private: " + m);
            }
        }
        check.same("the face", got.toString(), due.toString());
        for (Method m : FloorPanels.class.getDeclaredMethods()) {
            if (!Modifier.isPublic(m.getModifiers()) && publicNames.contains(m.getName())) {
                check.tell("a private method bears the name of a public one: " + m);
            }
        }
    }

    private static String told(Method m) {
        StringBuilder s = new StringBuilder(m.getReturnType().getName());
        s.append(' ').append(m.getName()).append('(');
        for (int i = 0; i < m.getParameterCount(); i++) {
            s.append(i == 0 ? "" : ",").append(m.getParameterTypes()[i].getName());
        }
        s.append(')');
        for (Class<?> e : m.getExceptionTypes()) {
            s.append(' ').append(e.getSimpleName());
        }
        return s.toString();
    }

    private static void asTheDocumentWritesIt(Document document) {
        List<String> due = new ArrayList<>();
        due.add("public final class FloorPanels");
        due.add("public static final int NONE = " + FloorPanels.NONE);
        due.add("public FloorPanels()");
        due.addAll(Arrays.asList(FACE));
        List<String> face = document.face();
        for (int i = 3; i < face.size(); i++) {
            face.set(i, withoutNames(face.get(i).replaceFirst("^public ", "")));
        }
        check.same("the face of the document", String.join("\n  ", face), String.join("\n  ", due));
        List<String> calls = document.promisedCalls();
        calls.replaceAll(FaceTest::withoutNames);
        List<String> promised = new ArrayList<>(Arrays.asList(FACE));
        promised.add(0, "FloorPanels()");
        check.same("the calls of the promises", String.join("\n  ", calls),
                String.join("\n  ", promised));
    }

    /** A call as FACE tells it. */
    private static String withoutNames(String call) {
        return call.replaceAll("(int|long|boolean) [a-z]+(?=[,)])", "$1").replaceAll(", (?=[a-z])", ",")
                .replace(" throws", "").replaceAll(", (?=[A-Z])", " ");
    }

    private static void fields() {
        for (Field f : FloorPanels.class.getDeclaredFields()) {
            boolean isNone = f.getName().equals("NONE") && f.getType() == int.class
                    && f.getModifiers() == (Modifier.PUBLIC | Modifier.STATIC | Modifier.FINAL);
            if (!isNone && !Modifier.isPrivate(f.getModifiers())) {
                check.tell("a field is not private: " + f);
            }
            if (Modifier.isStatic(f.getModifiers()) && !Modifier.isFinal(f.getModifiers())) {
                check.tell("a static field is not final: " + f);
            }
        }
    }

    private static void constructors() {
        Constructor<?>[] all = FloorPanels.class.getDeclaredConstructors();
        check.is("the constructors", all.length, 1);
        check.is("the constructor's parameters", all[0].getParameterCount(), 0);
        check.is("the constructor is public", all[0].getModifiers(), Modifier.PUBLIC);
    }

    private static void classesInside() {
        for (Class<?> inside : FloorPanels.class.getDeclaredClasses()) {
            int m = inside.getModifiers();
            if (Modifier.isPublic(m) || Modifier.isProtected(m) || !Modifier.isStatic(m)) {
                check.tell("a class inside is not static and hidden: " + inside);
            }
        }
    }
}
