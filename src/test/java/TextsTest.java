/** Promises 17 to 20: the buffer, its first syntax error, and undo. */
public final class TextsTest {
    public static void main(String[] args) {
        append();
        clearBuffer();
        firstError();
        undo();
        undoOfEach();
        undoKeepsTheBuffer();
        Due.end();
    }

    private static void append() {
        PenGuild x = new PenGuild();
        for (int code : new int[] {32, 127, 0, -1, 44 + 65536, Integer.MIN_VALUE, Integer.MAX_VALUE}) {
            Due.refused(x, Due.ARGUMENT, "append(" + code + ")", () -> x.append(code));
        }
        Due.answer("append(33)", x.append(33), 1);
        Due.answer("append(126)", x.append(126), 2);
        for (int length = 3; length <= 60; length++) {
            Due.answer("append", x.append(48), length);
        }
        Due.refused(x, Due.STATE, "the 61st", () -> x.append(48));
        Due.refused(x, Due.ARGUMENT, "the 61st, out of range", () -> x.append(32));
        Due.answer("nothing is saved", x.count(13), 0);
        x.clearBuffer();
        Due.answer("append again", x.append(48), 1);
    }

    private static void clearBuffer() {
        PenGuild x = new PenGuild();
        Due.write(x, "0*2,1");
        Due.answer("clearBuffer", x.clearBuffer(), 5);
        Due.answer("clearBuffer again", x.clearBuffer(), 0);
        Due.answer("firstError", x.firstError(), 0);
        Due.answer("nothing is saved", x.count(13), 0);
    }

    private static void firstError() {
        errorAt("", 0);
        for (String list : new String[] {"0", "1", "9", "10", "11", "11*9", "0*2", "0,1,2,3", "1,10,11", "11,10,1*2",
            "1*9,2*9,3*9,10*9", "10,1", "11,1,10", "10*2,11*2,9*2,8*2", "2,1"}) {
            errorAt(list, list.length());
        }
        for (String begun : new String[] {"0,", "0*", "1*", "10*", "0,1,2,", "1,1", "10,1", "11,1",
            "1,10,1", "10,11,1", "0*2,"}) {
            errorAt(begun, begun.length());
        }
        errorAt(",", 0);
        errorAt("*", 0);
        errorAt("a", 0);
        errorAt("!0", 0);
        errorAt("00", 1);
        errorAt("01", 1);
        errorAt("12", 1);
        errorAt("19", 1);
        errorAt("100", 2);
        errorAt("110", 2);
        errorAt("0,,", 2);
        errorAt("0*1", 2);
        errorAt("0*0", 2);
        errorAt("0*,", 2);
        errorAt("0**", 2);
        errorAt("0*22", 3);
        errorAt("0*2*2", 3);
        errorAt("0/1", 1);
        errorAt("0:1", 1);
        errorAt("/", 0);
        errorAt(":", 0);
        errorAt("0*:", 2);
        errorAt("0*/", 2);
        errorAt("0,0", 2);
        errorAt("5*3,5", 4);
        errorAt("1,1,2", 3);
        errorAt("1,1*2", 3);
        errorAt("1,12", 3);
        errorAt("10,10", 4);
        errorAt("11,11", 4);
        errorAt("10,1,1", 6);
        errorAt("10,1,1,", 6);
        errorAt("10,1,10", 6);
        errorAt("10,1,11", 7);
        errorAt("1,10,11,1", 8);
        errorAt("1,10,11,2", 9);
        errorAt("1,10,11,0*2", 11);
        errorAt("0,1,2,3,", 7);
        errorAt("0,1,2,3,4", 7);
        errorAt("0*2,1*2,2*2,3*2,", 15);
        errorAt("0,1,2,1,", 7);
        errorAt("0,1,2,1", 7);
        errorAt("0,1,2,10,", 8);
        errorAt("0a,1", 1);
        errorAt("0,a", 2);
        errorAt("~".repeat(60), 0);
        errorAt("0" + "9".repeat(59), 1);
    }

    private static void errorAt(String text, int due) {
        PenGuild x = new PenGuild();
        Due.write(x, text);
        long digest = x.digest();
        Due.answer("firstError of " + text, x.firstError(), due);
        Due.answer("firstError changes nothing", x.digest(), digest);
    }

    private static void undo() {
        PenGuild x = new PenGuild();
        long[] digests = new long[10];
        for (int i = 0; i < 10; i++) {
            Due.answer("saved", x.count(13), Math.min(i, 6));
            x.addPen();
        }
        for (int left = 5; left >= 0; left--) {
            Due.answer("undo", x.undo(), left);
            Due.answer("pens", x.count(0), left + 4);
            Due.answer("saved", x.count(13), left);
        }
        Due.refused(x, Due.STATE, "the 7th undo", () -> x.undo());
        for (int i = 0; i < 4; i++) {
            digests[i] = x.digest();
            x.addPen();
        }
        for (int i = 3; i >= 0; i--) {
            Due.answer("undo", x.undo(), i);
            Due.answer("digest", x.digest(), digests[i]);
        }
        x.addPen();
        Due.refused(x, Due.INDEX, "withdraw", () -> x.withdraw(12, 1));
        Due.refused(x, Due.STATE, "withdraw", () -> x.withdraw(0, 1));
        Due.answer("what was refused saved nothing", x.undo(), 0);
    }

    /** From each place in a run of calls of many kinds, 1 to 6 calls on and as many back. */
    private static void undoOfEach() {
        int calls = someCalls(Due.guild(1), 0).length;
        for (int first = 0; first < calls; first++) {
            for (int count = 1; count <= 6 && first + count <= calls; count++) {
                onAndBack(first, count);
            }
        }
    }

    private static void onAndBack(int first, int count) {
        PenGuild x = Due.guild(3);
        int piece = Due.shared(x, 0, 1000, "0,1");
        x.order(2, 100);
        x.draft(piece, 2);
        x.accept(piece);
        Due.Call[] calls = someCalls(x, piece);
        for (int i = 0; i < first; i++) {
            calls[i].run();
        }
        String before = Due.seen(x);
        for (int i = first; i < first + count; i++) {
            calls[i].run();
        }
        for (int left = 5; left > 5 - count; left--) {
            Due.answer("undo", x.undo(), left);
        }
        Due.answer(count + " calls from " + first + " undone", before.compareTo(Due.seen(x)), 0);
    }

    private static Due.Call[] someCalls(PenGuild x, int piece) {
        return new Due.Call[] {() -> x.royalty(piece, 500), () -> x.advance(2, 50), () -> x.sell(0, 1, 200),
            () -> x.dispute(piece, 2), () -> x.nextYear(), () -> x.buyBack(0), () -> x.kill(1),
            () -> x.set(2, 7), () -> x.withdraw(2, 9), () -> x.royalty(piece, 900), () -> x.addPen(),
            () -> x.order(3, 77), () -> x.revise(2, 99), () -> x.draft(2, 3), () -> x.accept(2)};
    }

    private static void undoKeepsTheBuffer() {
        PenGuild x = Due.guild(2);
        x.order(0, 100);
        Due.write(x, "0,1");
        x.nextYear();
        x.append(',');
        x.undo();
        Due.answer("the buffer stays", x.clearBuffer(), 4);
        Due.write(x, "1");
        x.share(0);
        x.append('9');
        x.undo();
        Due.answer("what came after it stays too", x.clearBuffer(), 1);
        Due.between(x, 0, 0, 1, 0);
    }
}
