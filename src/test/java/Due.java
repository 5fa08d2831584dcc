/** What the project's tests share: guilds to begin with, and the counting of answers that are not as due. */
final class Due {
    interface Call {
        long run();
    }

    static final Class<?> INDEX = IndexOutOfBoundsException.class;
    static final Class<?> ARGUMENT = IllegalArgumentException.class;
    static final Class<?> STATE = IllegalStateException.class;

    interface OfValue {
        long run(int value);
    }

    private static int checked;
    private static int wrong;
    private static String about = "";

    static void answer(String what, long got, long due) {
        checked++;
        if (got != due) {
            tell(what + " answered " + got + ", due is " + due);
        }
    }

    static void answer(String what, double got, double due) {
        checked++;
        if (Double.doubleToLongBits(got) != Double.doubleToLongBits(due)) {
            tell(what + " answered " + got + ", due is " + due);
        }
    }

    /** The call throws just this class, and leaves the guild as it was. */
    static void refused(PenGuild guild, Class<?> kind, String what, Call call) {
        checked++;
        long before = guild.digest();
        Class<?> thrown = thrownBy(call);
        if (thrown != kind) {
            tell(what + " threw " + thrown + ", due is " + kind);
        }
        answer(what + " leaves the digest", guild.digest(), before);
    }

    static Class<?> thrownBy(Call call) {
        try {
            call.run();
        } catch (RuntimeException e) {
            return e.getClass();
        }
        return null;
    }

    /** The call throws nothing. */
    static void taken(String what, Call call) {
        checked++;
        Class<?> thrown = thrownBy(call);
        if (thrown != null) {
            tell(what + " threw " + thrown);
        }
    }

    /** The values from the least to the greatest are taken, and those beside them are refused. */
    static void range(PenGuild guild, String what, OfValue call, int least, int greatest) {
        taken(what + " of " + least, () -> call.run(least));
        taken(what + " of " + greatest, () -> call.run(greatest));
        int[] beside = {least - 1, greatest + 1, Integer.MIN_VALUE, Integer.MAX_VALUE, least - 65536, greatest + 65536};
        for (int value : beside) {
            refused(guild, ARGUMENT, what + " of " + value, () -> call.run(value));
        }
    }

    /** The numbers from 0 on, so many of them, are taken, and those beside them are refused. */
    static void numbers(PenGuild guild, String what, OfValue call, int size) {
        taken(what + " of 0", () -> call.run(0));
        taken(what + " of " + (size - 1), () -> call.run(size - 1));
        int[] beside = {-1, size, Integer.MIN_VALUE, Integer.MAX_VALUE, size - 65536, size - 1 + 65536};
        for (int value : beside) {
            refused(guild, INDEX, what + " of " + value, () -> call.run(value));
        }
    }

    /** The call answers so and saves one state, and undo brings back all that was before it. */
    static void undoable(PenGuild guild, String what, Call call, long due) {
        roomForOneMore(guild);
        long before = guild.digest();
        int saved = guild.count(13);
        answer(what, call.run(), due);
        answer(what + " saves", guild.count(13), saved + 1);
        answer("undo after " + what, guild.undo(), saved);
        answer("digest after undo of " + what, guild.digest(), before);
        answer(what + " again", call.run(), due);
    }

    /** Calls that change nothing but the saved states, so that fewer than 6 of them are there. */
    private static void roomForOneMore(PenGuild guild) {
        if (guild.count(13) == 6) {
            guild.set(0, guild.setting(0));
            guild.undo();
        }
    }

    static void pen(PenGuild guild, int pen, int... due) {
        for (int what = 0; what < due.length; what++) {
            answer("pen(" + pen + ", " + what + ")", guild.pen(pen, what), due[what]);
        }
    }

    static void piece(PenGuild guild, int piece, int... due) {
        for (int what = 0; what < due.length; what++) {
            answer("piece(" + piece + ", " + what + ")", guild.piece(piece, what), due[what]);
        }
    }

    /** For each pen, what between() answers. */
    static void between(PenGuild guild, int piece, int what, int... due) {
        for (int pen = 0; pen < due.length; pen++) {
            answer("between(" + piece + ", " + pen + ", " + what + ")", guild.between(piece, pen, what), due[pen]);
        }
    }

    static void balances(PenGuild guild, int... due) {
        for (int pen = 0; pen < due.length; pen++) {
            answer("balance of " + pen, guild.pen(pen, 0), due[pen]);
        }
    }

    /** All that undo brings back, as a text. */
    static String seen(PenGuild guild) {
        StringBuilder all = new StringBuilder();
        for (int what = 0; what < 13; what++) {
            all.append(guild.count(what)).append(' ');
        }
        for (int i = 0; i < 6; i++) {
            all.append(guild.setting(i)).append(' ');
        }
        for (int pen = 0; pen < guild.count(0); pen++) {
            for (int what = 0; what < 9; what++) {
                all.append(guild.pen(pen, what)).append(' ');
            }
        }
        for (int piece = 0; piece < guild.count(1); piece++) {
            for (int what = 0; what < 10; what++) {
                all.append(guild.piece(piece, what)).append(' ');
            }
            for (int pen = 0; pen < guild.count(0); pen++) {
                for (int what = 0; what < 3; what++) {
                    all.append(guild.between(piece, pen, what)).append(' ');
                }
            }
        }
        return all.toString();
    }

    /** Pen 0 has 350000, each other pen 100000, the reserve 150000; piece 0, of pen 0, is accepted. */
    static PenGuild rich(int pens) {
        PenGuild guild = guild(pens);
        guild.set(0, 30);
        int piece = shared(guild, 0, 100000, "0");
        guild.accept(piece);
        for (int i = 0; i < 4; i++) {
            guild.royalty(piece, 100000);
        }
        guild.set(0, 10);
        for (int pen = 1; pen < pens; pen++) {
            earn(guild, pen, 100000);
        }
        return guild;
    }

    static PenGuild guild(int pens) {
        PenGuild guild = new PenGuild();
        for (int pen = 0; pen < pens; pen++) {
            guild.addPen();
        }
        return guild;
    }

    /** A pen gets the whole fee of an accepted piece of its own; returns that piece. */
    static int earn(PenGuild guild, int pen, int fee) {
        int percent = guild.set(0, 0);
        int piece = guild.order(pen, fee);
        guild.draft(piece, pen);
        guild.accept(piece);
        guild.set(0, percent);
        return piece;
    }

    /** A new piece with these parts, drafted once by its own pen. */
    static int shared(PenGuild guild, int byline, int fee, String parts) {
        int piece = guild.order(byline, fee);
        write(guild, parts);
        guild.share(piece);
        guild.draft(piece, byline);
        return piece;
    }

    static void write(PenGuild guild, String text) {
        guild.clearBuffer();
        for (int i = 0; i < text.length(); i++) {
            guild.append(text.charAt(i));
        }
    }

    /** These pens write drafts of a piece, one after another. */
    static void drafts(PenGuild guild, int piece, int... pens) {
        for (int pen : pens) {
            guild.draft(piece, pen);
        }
    }

    static void end() {
        System.out.println(checked + " checks, " + wrong + " wrong");
        if (wrong > 0 || checked == 0) {
            System.exit(1);
        }
    }

    static void tell(String what) {
        wrong++;
        System.out.println(what + (about.isEmpty() ? "" : " [" + about + "]"));
    }

    static int checked() {
        return checked;
    }

    /** The sentence that is told with what is not as due. */
    static void about(String sentence) {
        about = sentence;
    }

    private Due() {
    }
}
