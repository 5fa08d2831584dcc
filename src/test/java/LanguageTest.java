import java.io.IOException;
import java.lang.reflect.Constructor;
import java.lang.reflect.Field;
import java.lang.reflect.Method;
import java.lang.reflect.Modifier;
import java.nio.charset.StandardCharsets;
import java.nio.file.Files;
import java.nio.file.Path;
import java.util.ArrayList;
import java.util.Arrays;
import java.util.List;
import java.util.Set;
import java.util.TreeSet;
import java.util.regex.Pattern;
import java.util.stream.Collectors;

/** The face of the document and the rules of LANGUAGE.md, as far as a look at the class and its text can tell. */
public final class LanguageTest {
    private static final String FACE = """
        addPen()I !S
        sell(III)I !IAS
        buyBack(I)I !IS
        advance(II)I !IAS
        withdraw(II)I !IAS
        set(II)I !IA
        nextYear()I !
        order(II)I !IAS
        draft(II)I !IS
        revise(II)I !IAS
        share(I)I !IAS
        accept(I)I !IS
        kill(I)I !IS
        royalty(II)I !IAS
        dispute(II)I !IS
        append(I)I !AS
        clearBuffer()I !
        firstError()I !
        undo()I !S
        pen(II)I !IA
        piece(II)I !IA
        between(III)I !IA
        count(I)I !A
        setting(I)I !I
        ifPaid(III)I !IAS
        fairest(II)I !I
        bestPiece(II)I !IA
        spread()D !
        digest()J !
        """;

    private static final String[] BANNED = {"->", "::", "\\w+Exact\\b", "\\bsynchronized\\b", "\\bassert\\b",
        "\\bfinally\\b", "\\btry\\b", "\\bcatch\\b", "\\bDouble\\b", "\\bvar\\b", "@", "\\bStream\\b", "\\bSystem\\.[^a]",
        "\\bpackage\\b", "\\bnull\\b", "\\bhashCode\\b", "\\btoString\\b", "\" \\+", "\\+ \"", "while \\(true\\)",
        "\\bprotected\\b", "import (?!java\\.util\\.Arrays;)", "throw (?!new \\w+(\\(\"[^\"]*\"\\));)"};

    public static void main(String[] args) throws IOException {
        face();
        members();
        text();
        nothingIsMadeInCalls();
        Due.end();
    }

    private static void face() {
        Class<?> guild = PenGuild.class;
        Due.answer("the class", guild.getModifiers(), Modifier.PUBLIC | Modifier.FINAL);
        Set<String> due = new TreeSet<>(FACE.lines().map(String::trim).collect(Collectors.toSet()));
        Set<String> found = new TreeSet<>();
        for (Method method : guild.getDeclaredMethods()) {
            if (!Modifier.isPrivate(method.getModifiers())) {
                found.add(signature(method));
            }
        }
        check("the public methods are " + found, found.equals(due));
        Constructor<?>[] constructors = guild.getDeclaredConstructors();
        check("one public constructor", constructors.length == 1 && Modifier.isPublic(constructors[0].getModifiers())
            && constructors[0].getParameterCount() == 0);
        for (Field field : guild.getDeclaredFields()) {
            check("private but NONE: " + field, Modifier.isPrivate(field.getModifiers())
                || field.getName().equals("NONE") && Modifier.isPublic(field.getModifiers()));
        }
    }

    private static String signature(Method method) {
        String types = Arrays.stream(method.getParameterTypes()).map(Class::descriptorString)
            .collect(Collectors.joining());
        String thrown = Arrays.stream(method.getExceptionTypes())
            .map(e -> e == Due.INDEX ? "I" : e == Due.ARGUMENT ? "A" : e == Due.STATE ? "S" : "?")
            .collect(Collectors.joining());
        return method.getName() + "(" + types + ")" + method.getReturnType().descriptorString() + " !" + thrown;
    }

    private static void members() {
        Set<String> publicNames = new TreeSet<>();
        FACE.lines().forEach(line -> publicNames.add(line.trim().split("\\(")[0]));
        List<Class<?>> classes = new ArrayList<>(List.of(PenGuild.class.getDeclaredClasses()));
        classes.forEach(inner -> check("private or package-visible and static: " + inner,
            Modifier.isStatic(inner.getModifiers()) && !Modifier.isPublic(inner.getModifiers())));
        classes.add(PenGuild.class);
        check("at most 12 classes", classes.size() <= 12);
        for (Class<?> one : classes) {
            int fields = 0;
            for (Field field : one.getDeclaredFields()) {
                boolean isStatic = Modifier.isStatic(field.getModifiers());
                fields += isStatic ? 0 : 1;
                check("final: " + field, !isStatic || Modifier.isFinal(field.getModifiers()));
            }
            check("at most 20 fields: " + one, fields <= 20);
            for (Method method : one.getDeclaredMethods()) {
                check("at most 7 parameters: " + method, method.getParameterCount() <= 7);
                check("no private one like a public one: " + method,
                    Modifier.isPublic(method.getModifiers()) || !publicNames.contains(method.getName()));
            }
        }
    }

    private static void text() throws IOException {
        String source = Files.readString(Path.of("src/main/java/PenGuild.java"), StandardCharsets.UTF_8);
        check("signs of 1 to 127", source.chars().allMatch(c -> c > 0 && c < 128));
        String code = source.replaceAll("(?s)/\\*.*?\\*/", "").replaceAll("//.*", "");
        for (String banned : BANNED) {
            check("no " + banned, !Pattern.compile(banned).matcher(code).find());
        }
        int begin = 0;
        String[] lines = source.split("\n");
        for (int i = 0; i < lines.length; i++) {
            if (lines[i].matches(" {4}(    )?\\w.*\\(.*[){,]")) {
                begin = i;
            }
            check("a method of at most 60 lines at " + i, !lines[i].matches(" {4}(    )?}") || i - begin < 60
                || lines[begin].contains("class"));
        }
    }

    /** All calls of a run live in one room, so that a call that answers makes no object or array at all. */
    private static void nothingIsMadeInCalls() {
        com.sun.management.ThreadMXBean threads =
            (com.sun.management.ThreadMXBean) java.lang.management.ManagementFactory.getThreadMXBean();
        PenGuild x = Due.guild(11);
        for (int i = 0; i < 15; i++) {
            int piece = Due.shared(x, i % 11, 1000, "1,3*2,5");
            Due.drafts(x, piece, i % 2, 2, 2, 3, 3, 3);
            x.accept(piece);
        }
        work(x, 10);
        long before = threads.getCurrentThreadAllocatedBytes();
        work(x, 1000);
        long made = threads.getCurrentThreadAllocatedBytes() - before;
        check("calls made " + made + " bytes", made < 100000);
    }

    /** Undoable calls, never more than 6 ahead of the undoing of them, so that each round finds the same guild. */
    private static void work(PenGuild x, int rounds) {
        for (int i = 0; i < rounds; i++) {
            int piece = x.order(i % 11, 1000);
            x.append('1');
            x.append('*');
            x.append('2');
            x.firstError();
            x.share(piece);
            x.draft(piece, 2);
            x.dispute(piece, 2);
            x.revise(piece, 500);
            x.kill(piece);
            look(x);
            back(x, 6);
            x.royalty(i % 15, 100);
            x.advance(2, 1);
            x.withdraw(2, 1);
            x.sell(2, 3, 0);
            x.buyBack(2);
            x.addPen();
            look(x);
            back(x, 6);
            x.nextYear();
            x.set(2, 10);
            x.royalty(i % 15, 1000);
            x.order(3, 100);
            x.draft(15, 2);
            x.accept(15);
            look(x);
            back(x, 6);
        }
    }

    private static void look(PenGuild x) {
        x.digest();
        x.ifPaid(3, 100, 1);
        x.bestPiece(1, 100);
        x.fairest(4, 2);
        x.spread();
    }

    private static void back(PenGuild x, int calls) {
        for (int i = 0; i < calls; i++) {
            x.undo();
        }
    }

    private static void check(String what, boolean holds) {
        Due.answer(what, holds ? 1 : 0, 1);
    }
}
