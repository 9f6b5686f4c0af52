import java.io.IOException;
import java.lang.reflect.Member;
import java.lang.reflect.Method;
import java.lang.reflect.Modifier;
import java.nio.file.Files;
import java.util.Arrays;
import java.util.List;
import java.util.Set;
import java.util.TreeSet;
import java.util.regex.Pattern;
import java.util.stream.Collectors;

/** The public face, and rule 1 of LANGUAGE.md: nothing beside it can be seen. */
public final class FaceTest {
    private static final String IAE = "IllegalArgumentException";
    private static final String ISE = "IllegalStateException";
    private static final String NSE = "NoSuchElementException";
    private static final String UOE = "UnsupportedOperationException";

    /** How each promise begins in the document. */
    private static final Pattern PROMISED = Pattern.compile("(?m)^`([^`]+)`:");
    private static final Set<String> FACE = new TreeSet<>(Set.of(
            "int key(int) " + IAE + " " + ISE,
            "boolean revoke(int) ",
            "int register(int, int) " + NSE + " " + IAE + " " + ISE,
            "int rescope(int, int, int) " + NSE + " " + IAE,
            "int remove(int, int) " + NSE,
            "int rule(int, int, int, long) " + NSE + " " + IAE + " " + ISE,
            "int clear(int, int) " + NSE,
            "int ask(int, int, int, int, int) " + NSE + " " + IAE + " " + ISE,
            "int push(int, int, int, int, int) " + IAE + " " + ISE + " " + UOE,
            "int redeem(int, int, int, int) " + IAE + " " + ISE + " " + UOE,
            "int introspect(int, int, int) " + NSE,
            "boolean drop(int, int) ",
            "int tick(int) " + IAE,
            "int resource(int, int) ",
            "int ticket(int, int) ",
            "int token(int, int) "));

    public static void main(String[] args) throws IOException {
        Expect expect = new Expect();
        checkMembers(expect);
        if (Files.exists(Source.DOCUMENT)) {
            checkDocument(expect);
        }
        expect.end();
    }

    /** With the names of the parameters, which the compiled class has not. */
    private static void checkDocument(Expect expect) throws IOException {
        List<String> program = Source.faceOfProgram();
        List<String> face = Source.face(Source.section(Source.DOCUMENT, "The public face"));
        List<String> promised = PROMISED.matcher(Files.readString(Source.DOCUMENT)).results()
                .map(found -> found.group(1)).toList();
        expect.equal("public members of the program", program.size(), FACE.size() + 1);
        expect.same("the program and the public face", program.toString(), face.toString());
        expect.same("the program and the promises", program.toString(), promised.toString());
    }

    private static void checkMembers(Expect expect) {
        Class<?> desk = GrantDesk.class;
        expect.equal("public and final", desk.getModifiers(), Modifier.PUBLIC | Modifier.FINAL);
        expect.equal("constructors", desk.getDeclaredConstructors().length, 1);
        expect.equal("its modifiers", desk.getDeclaredConstructors()[0].getModifiers(), Modifier.PUBLIC);
        expect.equal("its parameters", desk.getDeclaredConstructors()[0].getParameterCount(), 0);
        expect.same("methods", publicMethods(desk).toString(), FACE.toString());
        expect.same("other members that can be seen", otherMembers(desk).toString(), "[]");
        expect.same("private methods with public names", namesTwice(desk).toString(), "[]");
        for (Class<?> inside : desk.getDeclaredClasses()) {
            int modifiers = inside.getModifiers();
            expect.equal(inside + " is static", Modifier.isStatic(modifiers), true);
            expect.equal(inside + " is hidden", Modifier.isPublic(modifiers) || Modifier.isProtected(modifiers), false);
        }
    }

    private static Set<String> publicMethods(Class<?> desk) {
        return Arrays.stream(desk.getDeclaredMethods()).filter(m -> m.getModifiers() == Modifier.PUBLIC)
                .map(FaceTest::signature).collect(Collectors.toCollection(TreeSet::new));
    }

    private static String signature(Method method) {
        return method.getReturnType().getSimpleName() + " " + method.getName()
                + Arrays.stream(method.getParameterTypes()).map(Class::getSimpleName)
                        .collect(Collectors.joining(", ", "(", ") "))
                + Arrays.stream(method.getExceptionTypes()).map(Class::getSimpleName)
                        .collect(Collectors.joining(" "));
    }

    private static Set<String> otherMembers(Class<?> desk) {
        Set<String> seen = new TreeSet<>();
        for (Member field : desk.getDeclaredFields()) {
            addIfSeen(seen, field);
        }
        for (Member method : desk.getDeclaredMethods()) {
            if (method.getModifiers() != Modifier.PUBLIC) {
                addIfSeen(seen, method);
            }
        }
        return seen;
    }

    private static void addIfSeen(Set<String> seen, Member member) {
        if (!Modifier.isPrivate(member.getModifiers())) {
            seen.add(member.getName());
        }
    }

    private static Set<String> namesTwice(Class<?> desk) {
        Set<String> open = new TreeSet<>();
        Set<String> hidden = new TreeSet<>();
        for (Method method : desk.getDeclaredMethods()) {
            (Modifier.isPrivate(method.getModifiers()) ? hidden : open).add(method.getName());
        }
        for (Class<?> inside : desk.getDeclaredClasses()) {
            for (Method method : inside.getDeclaredMethods()) {
                hidden.add(method.getName());
            }
        }
        hidden.retainAll(open);
        return hidden;
    }
}
