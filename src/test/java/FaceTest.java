import java.io.IOException;
import java.lang.reflect.Constructor;
import java.lang.reflect.Field;
import java.lang.reflect.Member;
import java.lang.reflect.Method;
import java.lang.reflect.Modifier;
import java.nio.file.Files;
import java.nio.file.Path;
import java.util.List;
import java.util.Set;
import java.util.TreeSet;
import java.util.stream.Collectors;

/**
 * The public face: its constants, its constructor, its methods, and no other member that is not private. It is run from
 * the project's directory.
 */
public final class FaceTest {
    private static final Set<String> METHODS = Set.of(
        "int cooler(int,int,int,int,int,int,int)", "int cold(int,int)", "int cells(int,int)", "int set(int,int)",
        "int side(int,int)", "long heat(int)", "int start()", "int low()", "int high()", "int trip()", "int reset()",
        "int tick(int)", "int adsorber(int,int)", "int valve(int)", "int order(int,int)", "int deliver()",
        "int about(int,int)", "int back(int)", "int lose(int,boolean)", "long meter(int)", "long balance(int)",
        "int split(int,int,int,int)", "int count(int)", "long trace()");
    private static final Set<String> CONSTANTS = Set.of(
        "BAD", "STATE", "FULL", "NONE", "STOPPED", "COOLING", "RUNNING", "LOW", "TRIPPED");

    public static void main(String[] args) throws IOException {
        wordForWord();
        constants();
        classAndConstructor();
        methods();
        fields();
        Due.end("FaceTest");
    }

    /** The document's face with its order and the names of its parameters, which a compiled class does not keep. */
    private static void wordForWord() throws IOException {
        List<String> face = publicLines(Path.of("../shared/DOC.md"));
        List<String> ours = publicLines(Path.of("src/main/java/ColdWorks.java"));
        Due.is("lines of the face", ours.size(), 1 + 2 + 1 + METHODS.size());
        for (int i = 0; i < Math.max(face.size(), ours.size()); i++) {
            String told = i < face.size() ? face.get(i) : "no line";
            String stands = i < ours.size() ? ours.get(i) : "no line";
            Due.is("the face's " + told + " stands as " + stands, told.equals(stands) ? 0 : 1, 0);
        }
    }

    private static List<String> publicLines(Path file) throws IOException {
        return Files.readString(file).lines().map(String::strip).filter(line -> line.startsWith("public "))
            .map(line -> line.replaceAll("(;| \\{)$", "")).collect(Collectors.toList());
    }

    private static void constants() {
        Due.is("BAD", ColdWorks.BAD, -1);
        Due.is("STATE", ColdWorks.STATE, -2);
        Due.is("FULL", ColdWorks.FULL, -3);
        Due.is("NONE", ColdWorks.NONE, -9);
        Due.is("STOPPED", ColdWorks.STOPPED, 0);
        Due.is("COOLING", ColdWorks.COOLING, 1);
        Due.is("RUNNING", ColdWorks.RUNNING, 2);
        Due.is("LOW", ColdWorks.LOW, 3);
        Due.is("TRIPPED", ColdWorks.TRIPPED, 4);
    }

    private static void classAndConstructor() {
        int modifiers = ColdWorks.class.getModifiers();
        Due.is("the class is public", Modifier.isPublic(modifiers) ? 1 : 0, 1);
        Due.is("the class is final", Modifier.isFinal(modifiers) ? 1 : 0, 1);
        Constructor<?>[] all = ColdWorks.class.getDeclaredConstructors();
        Due.is("constructors", all.length, 1);
        Due.is("the constructor's parameters", all[0].getParameterCount(), 0);
        Due.is("the constructor is public", Modifier.isPublic(all[0].getModifiers()) ? 1 : 0, 1);
    }

    private static void methods() {
        Set<String> publicNames = new TreeSet<>();
        Set<String> seen = new TreeSet<>();
        for (Method m : ColdWorks.class.getDeclaredMethods()) {
            if (isHidden(m)) {
                continue;
            }
            publicNames.add(m.getName());
            seen.add(text(m));
            Due.is(text(m) + " is public and of an object", m.getModifiers(), Modifier.PUBLIC);
        }
        compare("method", seen, METHODS);
        for (Method m : ColdWorks.class.getDeclaredMethods()) {
            boolean clash = isHidden(m) && publicNames.contains(m.getName());
            Due.is("a private method is named " + m.getName(), clash ? 1 : 0, 0);
        }
    }

    private static void fields() {
        Set<String> seen = new TreeSet<>();
        for (Field f : ColdWorks.class.getDeclaredFields()) {
            boolean unfixed = Modifier.isStatic(f.getModifiers()) && !Modifier.isFinal(f.getModifiers());
            Due.is(f.getName() + " is static and not final", unfixed ? 1 : 0, 0);
            if (!isHidden(f)) {
                seen.add(f.getName());
            }
        }
        compare("constant", seen, CONSTANTS);
    }

    private static void compare(String what, Set<String> seen, Set<String> wanted) {
        for (String s : wanted) {
            Due.is(what + " " + s + " is there", seen.contains(s) ? 1 : 0, 1);
        }
        for (String s : seen) {
            Due.is(what + " " + s + " is of the face", wanted.contains(s) ? 1 : 0, 1);
        }
    }

    private static boolean isHidden(Member m) {
        return Modifier.isPrivate(m.getModifiers()) || m.isSynthetic();
    }

    private static String text(Method m) {
        StringBuilder s = new StringBuilder(m.getReturnType().getName() + " " + m.getName() + "(");
        for (int i = 0; i < m.getParameterCount(); i++) {
            s.append(i == 0 ? "" : ",").append(m.getParameterTypes()[i].getName());
        }
        return s.append(")").toString();
    }
}
