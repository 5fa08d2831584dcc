import java.io.ByteArrayOutputStream;
import java.io.IOException;
import java.io.PrintStream;
import java.lang.reflect.Method;
import java.lang.reflect.Modifier;
import java.nio.charset.StandardCharsets;
import java.nio.file.Files;
import java.nio.file.Path;
import java.util.List;
import java.util.Set;
import java.util.TreeSet;
import java.util.regex.Matcher;
import java.util.regex.Pattern;
import java.util.stream.Collectors;
import java.util.stream.Stream;

/** What README.md says is so: its example is the code below, and its tables name each call and each test. */
public final class ReadmeTest {
    private static final Path TESTS = Path.of("src/test/java");

    public static void main(String[] args) throws IOException {
        String readme = Files.readString(Path.of("README.md"), StandardCharsets.UTF_8);
        String block = between(readme, "```java\n", "```");
        String own = Files.readString(TESTS.resolve("ReadmeTest.java"), StandardCharsets.UTF_8);
        same("the example", lines(between(own, "// what README.md shows:\n", "// up to here")), lines(block));
        same("what the example prints", printed(), found("// prints (-?\\d+)", block));
        same("the tests", testsThatThereAre(), new TreeSet<>(found("(?m)^\\| `(\\w+Test)` \\|", readme)));
        List<String> rows = found("(?m)^\\| ((?:`[a-z]\\w*`(?:, )?)+) \\|", readme);
        List<String> calls = found("`(\\w+)`", String.join(" ", rows));
        same("the calls", new TreeSet<>(calls), publicCalls());
        Due.answer("calls in the table", calls.size(), publicCalls().size());
        same("the calls that undo takes back", callsTakenBack(), new TreeSet<>(found("`(\\w+)`",
            rows.get(0) + rows.get(1))));
        undoesSix();
        Due.end();
    }

    private static void example() {
        // what README.md shows:
        PenGuild guild = new PenGuild();
        int ann = guild.addPen();
        int bob = guild.addPen();
        int piece = guild.order(ann, 1000);
        guild.draft(piece, ann);
        guild.draft(piece, bob);
        guild.dispute(piece, bob);
        System.out.println(guild.accept(piece));
        System.out.println(guild.royalty(piece, 500));
        System.out.println(guild.pen(bob, 0));
        System.out.println(guild.pen(ann, 0));
        guild.undo();
        System.out.println(guild.pen(bob, 0));
        for (char sign : "0*2,1".toCharArray()) {
            guild.append(sign);
        }
        System.out.println(guild.firstError());
        System.out.println(guild.share(piece));
        System.out.println(guild.ifPaid(piece, 500, bob));
        try {
            guild.withdraw(bob, 451);
        } catch (IllegalStateException e) {
            System.out.println(guild.pen(bob, 0));
        }
        // up to here
    }

    private static List<String> printed() {
        PrintStream out = System.out;
        ByteArrayOutputStream all = new ByteArrayOutputStream();
        System.setOut(new PrintStream(all, true, StandardCharsets.UTF_8));
        try {
            example();
        } finally {
            System.setOut(out);
        }
        return lines(all.toString(StandardCharsets.UTF_8));
    }

    /** Each of them on a guild where it can be done: those that save a state. */
    private static Set<String> callsTakenBack() {
        Set<String> saving = new TreeSet<>();
        saves(saving, "addPen", PenGuild::addPen);
        saves(saving, "sell", x -> x.sell(1, 0, 10));
        saves(saving, "buyBack", x -> x.buyBack(2));
        saves(saving, "advance", x -> x.advance(0, 1));
        saves(saving, "withdraw", x -> x.withdraw(0, 1));
        saves(saving, "set", x -> x.set(0, 0));
        saves(saving, "nextYear", PenGuild::nextYear);
        saves(saving, "order", x -> x.order(0, 10));
        saves(saving, "draft", x -> x.draft(1, 0));
        saves(saving, "revise", x -> x.revise(1, 10));
        saves(saving, "share", x -> x.share(1));
        saves(saving, "accept", x -> x.accept(1));
        saves(saving, "kill", x -> x.kill(1));
        saves(saving, "royalty", x -> x.royalty(0, 1));
        saves(saving, "dispute", x -> x.dispute(1, 1));
        saves(saving, "append", x -> x.append('0'));
        saves(saving, "clearBuffer", PenGuild::clearBuffer);
        saves(saving, "firstError", PenGuild::firstError);
        saves(saving, "pen", x -> x.pen(0, 8));
        saves(saving, "piece", x -> x.piece(0, 9));
        saves(saving, "between", x -> x.between(0, 0, 2));
        saves(saving, "count", x -> x.count(13));
        saves(saving, "setting", x -> x.setting(5));
        saves(saving, "ifPaid", x -> x.ifPaid(0, 1, 0));
        saves(saving, "fairest", x -> x.fairest(1, 1));
        saves(saving, "bestPiece", x -> x.bestPiece(0, 1));
        saves(saving, "spread", x -> (long) x.spread());
        saves(saving, "digest", PenGuild::digest);
        return saving;
    }

    interface CallOf {
        long run(PenGuild guild);
    }

    private static void saves(Set<String> saving, String name, CallOf call) {
        PenGuild x = guildToTry();
        String seen = Due.seen(x);
        Due.taken(name, () -> call.run(x));
        if (x.count(13) == 1) {
            saving.add(name);
            x.undo();
        }
        Due.answer(name + " is taken back or changes nothing", Due.seen(x).equals(seen) ? 1 : 0, 1);
    }

    /** Without saved states: pen 0 owns the byline of pen 2; piece 0 is accepted, piece 1 drafted by pen 1. */
    private static PenGuild guildToTry() {
        PenGuild x = Due.guild(3);
        x.accept(Due.shared(x, 0, 1000, "0,2"));
        x.sell(2, 0, 0);
        x.order(0, 100);
        x.draft(1, 1);
        // Six calls that change nothing push the saved states out, and are taken back then.
        for (int i = 0; i < 6; i++) {
            x.set(1, x.setting(1));
        }
        for (int i = 0; i < 6; i++) {
            x.undo();
        }
        Due.write(x, "1");
        return x;
    }

    private static void undoesSix() {
        PenGuild x = Due.guild(9);
        for (int left = 5; left >= 0; left--) {
            Due.answer("undo", x.undo(), left);
        }
        Due.refused(x, Due.STATE, "the seventh undo", x::undo);
        Due.answer("pens", x.count(0), 3);
    }

    private static Set<String> publicCalls() {
        Set<String> names = new TreeSet<>();
        for (Method method : PenGuild.class.getDeclaredMethods()) {
            if (Modifier.isPublic(method.getModifiers())) {
                names.add(method.getName());
            }
        }
        return names;
    }

    private static Set<String> testsThatThereAre() throws IOException {
        try (Stream<Path> files = Files.list(TESTS)) {
            return files.map(file -> file.getFileName().toString()).filter(name -> name.endsWith("Test.java"))
                .map(name -> name.replace(".java", "")).collect(Collectors.toCollection(TreeSet::new));
        }
    }

    /** The lines of code, without what is said beside them. */
    private static List<String> lines(String code) {
        return code.lines().map(line -> line.replaceFirst("//.*", "").trim()).filter(line -> !line.isEmpty()).toList();
    }

    private static String between(String text, String begin, String end) {
        int from = text.indexOf(begin);
        int to = from < 0 ? -1 : text.indexOf(end, from + begin.length());
        return to < 0 ? "" : text.substring(from + begin.length(), to);
    }

    private static List<String> found(String pattern, String text) {
        Matcher matcher = Pattern.compile(pattern).matcher(text);
        return matcher.results().map(result -> result.group(1)).toList();
    }

    private static void same(String what, Object got, Object due) {
        Due.answer(what + " " + got + " beside " + due, got.equals(due) && !due.toString().equals("[]") ? 1 : 0, 1);
    }

    private ReadmeTest() {
    }
}
