import java.lang.reflect.Constructor;
import java.lang.reflect.Field;
import java.lang.reflect.Method;
import java.lang.reflect.Modifier;
import java.nio.file.Files;
import java.nio.file.Path;
import java.util.ArrayList;
import java.util.Collections;
import java.util.HashSet;
import java.util.List;
import java.util.Set;

/** The public face of the document, and the rules of LANGUAGE.md that a program can look at. */
public final class FaceTest {
    private static final String[] FACE = {
        "int air(boolean,int) NoSuchElementException IndexOutOfBoundsException",
        "int attribute(int,int,long,int) IllegalArgumentException IllegalStateException",
        "int data(int) IndexOutOfBoundsException",
        "int error()",
        "int event(int,long,long) IllegalArgumentException IllegalStateException",
        "int look(int)",
        "int note(int,int) NoSuchElementException IndexOutOfBoundsException",
        "int outcome() NoSuchElementException",
        "int put(int,boolean,long,int) IllegalArgumentException IllegalStateException",
        "int run(int) IllegalArgumentException",
        "int value(int,int) IllegalArgumentException IndexOutOfBoundsException",
        "void begin(int,int) IllegalArgumentException IllegalStateException",
        "void raw(long,int) IllegalArgumentException IllegalStateException",
        "void tell(int,boolean) IllegalArgumentException IllegalStateException",
        "void write(int,long,int,boolean) IllegalArgumentException IllegalStateException",
    };
    private static final String[] RULED_OUT = {"->", "::", "synchronized", "assert", "finally", "System.out", "Exact(",
        "getMessage", "hashCode", "toString", "double", "float", "Random", "currentTime", "nanoTime", "\" +", "+ \""};

    public static void main(String[] args) throws Exception {
        publicFace();
        membersInside();
        source(args[0]);
        Checks.end();
    }

    private static String signature(Method method) {
        StringBuilder text = new StringBuilder(method.getReturnType() + " " + method.getName() + "(");
        for (int k = 0; k < method.getParameterCount(); k++) {
            text.append(k == 0 ? "" : ",").append(method.getParameterTypes()[k]);
        }
        text.append(")");
        for (Class<?> thrown : method.getExceptionTypes()) {
            text.append(" ").append(thrown.getSimpleName());
        }
        return text.toString();
    }

    private static void publicFace() {
        List<String> methods = new ArrayList<>();
        Set<String> names = new HashSet<>();
        for (Method method : AttributeLink.class.getDeclaredMethods()) {
            if (!Modifier.isPrivate(method.getModifiers())) {
                methods.add(signature(method));
                names.add(method.getName());
            }
        }
        Collections.sort(methods);
        Checks.dueTrue("the methods are " + methods, methods.equals(List.of(FACE)));
        for (Method method : AttributeLink.class.getDeclaredMethods()) {
            boolean hidden = Modifier.isPrivate(method.getModifiers());
            Checks.dueTrue("private name " + method.getName(), !hidden || !names.contains(method.getName()));
        }
        Constructor<?>[] constructors = AttributeLink.class.getDeclaredConstructors();
        Checks.due("one constructor", 1, constructors.length);
        Checks.dueTrue("its face", constructors[0].toString().equals("public AttributeLink(int,int,int)"));
        Checks.due("public and final", Modifier.PUBLIC | Modifier.FINAL, AttributeLink.class.getModifiers());
    }

    private static void membersInside() {
        for (Field field : AttributeLink.class.getDeclaredFields()) {
            Checks.dueTrue("field " + field.getName(), Modifier.isPrivate(field.getModifiers()));
        }
        Class<?>[] inside = AttributeLink.class.getDeclaredClasses();
        Checks.dueTrue("at most twelve classes", inside.length + 1 <= 12);
        for (Class<?> one : inside) {
            Checks.dueTrue("class " + one.getName(), Modifier.isStatic(one.getModifiers()));
            int fields = 0;
            for (Field field : one.getDeclaredFields()) {
                boolean isStatic = Modifier.isStatic(field.getModifiers());
                fields += isStatic ? 0 : 1;
                Checks.dueTrue("static " + field.getName(), !isStatic || Modifier.isFinal(field.getModifiers()));
            }
            Checks.dueTrue("fields of " + one.getName(), fields <= 20);
            for (Method method : one.getDeclaredMethods()) {
                Checks.dueTrue("parameters of " + method.getName(), method.getParameterCount() <= 7);
            }
        }
    }

    private static void source(String file) throws Exception {
        int line = 0;
        for (String text : Files.readAllLines(Path.of(file))) {
            line++;
            for (String word : RULED_OUT) {
                Checks.dueTrue("line " + line + " has " + word, !text.contains(word));
            }
            boolean imports = text.startsWith("import ");
            Checks.dueTrue("line " + line, !imports || text.equals("import java.util.NoSuchElementException;"));
            Checks.dueTrue("line " + line, !text.startsWith("package "));
        }
    }
}
