/** The sentences of "Terms" on undo and on exceptions. */
final class EdgesOfUndo {
    static void run() {
        undoable();
        notUndoable();
        alsoIfNothingChanges();
        notTheBuffer();
        sixStates();
        refusedDropsNothing();
        nothingChanges();
        nothingChangesInANewOne();
        firstNamed();
    }

    /** A guild in which each call of undoables() can be made. */
    static PenGuild busy() {
        PenGuild x = Due.rich(4);
        x.sell(2, 0, 50);
        x.order(0, 100);
        Due.drafts(x, 4, 0, 1, 1);
        x.order(1, 100);
        Due.write(x, "3,1*2");
        x.nextYear();
        return x;
    }

    private static Due.Call[] undoables(PenGuild x) {
        return new Due.Call[] {() -> x.addPen(), () -> x.sell(1, 0, 5), () -> x.buyBack(2), () -> x.advance(1, 1),
            () -> x.withdraw(0, 1), () -> x.set(3, 7), () -> x.nextYear(), () -> x.order(3, 10), () -> x.draft(5, 3),
            () -> x.revise(5, 11), () -> x.share(5), () -> x.accept(4), () -> x.kill(5), () -> x.royalty(0, 1),
            () -> x.dispute(4, 1)};
    }

    private static void undoable() {
        Sentences.says(0, "Each method that is marked \"undoable\" and does not throw an exception saves the state"
            + " from before it (also if it changes nothing): all but the buffer and the saved states.");
        int calls = undoables(new PenGuild()).length;
        for (int i = 0; i < calls; i++) {
            undoneAndDoneAgain(i);
        }
    }

    private static void undoneAndDoneAgain(int call) {
        PenGuild x = busy();
        // One of the 6 saved states goes, so that there are as many of them after the call and its undoing.
        x.undo();
        long before = x.digest();
        Due.answer("saved ahead of call " + call, x.count(13), 5);
        long answered = undoables(x)[call].run();
        Due.answer("saved by call " + call, x.count(13), 6);
        long after = x.digest();
        Due.answer("undo of call " + call, x.undo(), 5);
        Due.write(x, "3,1*2");
        Due.answer("digest after undo of call " + call, x.digest(), before);
        Due.answer("call " + call + " again", undoables(x)[call].run(), answered);
        Due.answer("digest after call " + call + " again", x.digest(), after);
    }

    private static void notUndoable() {
        PenGuild x = busy();
        x.undo();
        Due.answer("saved", x.count(13), 5);
        Due.Call[] calls = {() -> x.append('!'), () -> x.clearBuffer(), () -> x.firstError(), () -> x.pen(0, 0),
            () -> x.piece(0, 0), () -> x.between(0, 0, 0), () -> x.count(0), () -> x.setting(0),
            () -> x.ifPaid(0, 1, 0), () -> x.fairest(0, 0), () -> x.bestPiece(0, 1), () -> (long) x.spread(),
            () -> x.digest()};
        for (int i = 0; i < calls.length; i++) {
            calls[i].run();
            Due.answer("saved by call " + i, x.count(13), 5);
        }
        x.undo();
        Due.answer("undo itself saves nothing", x.count(13), 4);
        x.undo();
        Due.answer("undo itself saves nothing", x.count(13), 3);
    }

    private static void alsoIfNothingChanges() {
        PenGuild x = Due.guild(1);
        x.undo();
        x.set(0, 10);
        Due.answer("saved by set to what it is", x.count(13), 1);
        x.set(2, 0);
        x.set(2, 0);
        Due.answer("saved by set to what it is", x.count(13), 3);
        Due.answer("undo", x.undo(), 2);
        Due.answer("undo", x.undo(), 1);
        Due.answer("undo", x.undo(), 0);
        Due.refused(x, Due.STATE, "undo", () -> x.undo());
    }

    private static void notTheBuffer() {
        PenGuild x = Due.guild(2);
        x.nextYear();
        Due.write(x, "0");
        x.undo();
        Due.answer("a buffer that was empty stays full", x.clearBuffer(), 1);
        Due.write(x, "0,1");
        x.nextYear();
        x.clearBuffer();
        x.undo();
        Due.answer("a buffer that was full stays empty", x.clearBuffer(), 0);
        x.order(0, 10);
        Due.write(x, "1");
        x.share(0);
        x.undo();
        Due.answer("a list that was taken stays away", x.clearBuffer(), 0);
        for (int length = 1; length <= 60; length++) {
            x.append('~');
        }
        x.undo();
        Due.refused(x, Due.STATE, "the buffer is full still", () -> x.append('~'));
    }

    private static void sixStates() {
        Sentences.says(0, "At most 6 states are saved; the oldest one is dropped first.");
        for (int calls = 1; calls <= 15; calls++) {
            PenGuild x = new PenGuild();
            for (int i = 0; i < calls; i++) {
                x.nextYear();
            }
            int saved = calls < 6 ? calls : 6;
            Due.answer("saved", x.count(13), saved);
            for (int left = saved - 1; left >= 0; left--) {
                Due.answer("undo", x.undo(), left);
                Due.answer("year", x.count(2), calls - saved + left);
            }
            Due.refused(x, Due.STATE, "undo of what was dropped", () -> x.undo());
            Due.answer("year", x.count(2), calls - saved);
            x.nextYear();
            Due.answer("saved", x.count(13), 1);
            Due.answer("undo", x.undo(), 0);
            Due.answer("year", x.count(2), calls - saved);
        }
    }

    private static void refusedDropsNothing() {
        PenGuild x = Due.guild(7);
        Due.refused(x, Due.STATE, "withdraw", () -> x.withdraw(0, 1));
        Due.refused(x, Due.INDEX, "order", () -> x.order(7, 10));
        Due.refused(x, Due.ARGUMENT, "set", () -> x.set(0, 31));
        for (int left = 5; left >= 0; left--) {
            Due.answer("undo", x.undo(), left);
            Due.answer("pens", x.count(0), left + 1);
        }
        Due.refused(x, Due.STATE, "undo", () -> x.undo());
    }

    /** 12 pens, 20 pieces of all stages, 60 characters, 6 saved states. */
    private static PenGuild full() {
        PenGuild x = Due.rich(12);
        x.order(0, 100);
        x.draft(12, 0);
        for (int draft = 1; draft < 9; draft++) {
            x.draft(12, 0);
        }
        x.order(1, 100);
        Due.drafts(x, 13, 1);
        x.kill(13);
        for (int piece = 14; piece < 20; piece++) {
            x.order(piece - 14, 100);
        }
        x.withdraw(11, 100000);
        x.sell(1, 0, 90000);
        Due.write(x, "0,1*2," + "x".repeat(54));
        return x;
    }

    private static Due.Call[] refusedByFull(PenGuild x) {
        return new Due.Call[] {() -> x.addPen(), () -> x.sell(12, 0, 1), () -> x.sell(0, 12, 1),
            () -> x.sell(0, 1, 100001), () -> x.sell(0, 0, 1), () -> x.sell(0, 11, 1), () -> x.buyBack(12),
            () -> x.buyBack(2), () -> x.advance(12, 1), () -> x.advance(0, 0), () -> x.withdraw(12, 1),
            () -> x.withdraw(0, 100001), () -> x.withdraw(11, 1), () -> x.set(6, 1), () -> x.set(2, 10001),
            () -> x.order(12, 10), () -> x.order(0, 9), () -> x.order(0, 10), () -> x.draft(20, 0),
            () -> x.draft(14, 12), () -> x.draft(12, 0), () -> x.draft(0, 0), () -> x.draft(13, 0),
            () -> x.revise(20, 10), () -> x.revise(14, 9), () -> x.revise(0, 10), () -> x.revise(13, 10),
            () -> x.share(20), () -> x.share(14), () -> x.share(13), () -> x.accept(20), () -> x.accept(14),
            () -> x.accept(0), () -> x.accept(13), () -> x.kill(20), () -> x.kill(0), () -> x.kill(13),
            () -> x.royalty(20, 1), () -> x.royalty(0, 0), () -> x.royalty(14, 1), () -> x.royalty(13, 1),
            () -> x.dispute(20, 0), () -> x.dispute(14, 12), () -> x.dispute(14, 0), () -> x.dispute(13, 1),
            () -> x.append(32), () -> x.append('0'), () -> x.pen(12, 0), () -> x.pen(0, 9), () -> x.piece(20, 0),
            () -> x.piece(0, 10), () -> x.between(20, 0, 0), () -> x.between(0, 12, 0), () -> x.between(0, 0, 3),
            () -> x.count(14), () -> x.setting(6), () -> x.ifPaid(20, 1, 0), () -> x.ifPaid(0, 0, 0),
            () -> x.ifPaid(0, 1, 12), () -> x.ifPaid(14, 1, 0), () -> x.fairest(20, 0), () -> x.fairest(0, 12),
            () -> x.bestPiece(12, 1), () -> x.bestPiece(0, 0)};
    }

    private static void nothingChanges() {
        Sentences.says(0, "A call that throws an exception changes nothing.");
        PenGuild x = full();
        PenGuild twin = full();
        Due.Call[] calls = refusedByFull(x);
        for (int i = 0; i < calls.length; i++) {
            Due.answer("call " + i + " is refused", Due.thrownBy(calls[i]) == null ? 0 : 1, 1);
            Due.answer("digest after call " + i, x.digest(), twin.digest());
        }
        Due.answer("the buffer is full", x.clearBuffer(), 60);
        twin.clearBuffer();
        for (int left = 5; left >= 0; left--) {
            Due.answer("undo", x.undo(), left);
            twin.undo();
            Due.answer("digest", x.digest(), twin.digest());
        }
        Due.refused(x, Due.STATE, "undo", () -> x.undo());
    }

    private static void nothingChangesInANewOne() {
        PenGuild x = new PenGuild();
        Due.Call[] calls = {() -> x.sell(0, 0, 0), () -> x.buyBack(0), () -> x.advance(0, 1), () -> x.withdraw(0, 1),
            () -> x.set(-1, 0), () -> x.order(0, 10), () -> x.draft(0, 0), () -> x.revise(0, 10), () -> x.share(0),
            () -> x.accept(0), () -> x.kill(0), () -> x.royalty(0, 1), () -> x.dispute(0, 0), () -> x.append(0),
            () -> x.pen(0, 0), () -> x.piece(0, 0), () -> x.between(0, 0, 0), () -> x.count(-1),
            () -> x.setting(-1), () -> x.ifPaid(0, 1, 0), () -> x.fairest(0, 0), () -> x.bestPiece(0, 1)};
        for (int i = 0; i < calls.length; i++) {
            boolean byCode = i == 13 || i == 17;
            Due.refused(x, byCode ? Due.ARGUMENT : Due.INDEX, "call " + i, calls[i]);
            Due.answer("saved by call " + i, x.count(13), 0);
        }
        Due.refused(x, Due.STATE, "undo", () -> x.undo());
        Due.answer("digest", x.digest(), new PenGuild().digest());
    }

    private static void firstNamed() {
        Sentences.says(0, "If several exceptions apply, the one that is named first in the throws clause is thrown.");
        PenGuild x = full();
        Due.Call[] indexes = {() -> x.sell(12, 0, -1), () -> x.sell(0, 12, 100001), () -> x.sell(12, 12, -1),
            () -> x.sell(-1, 11, 1), () -> x.buyBack(12), () -> x.advance(12, 0), () -> x.advance(-1, 100001),
            () -> x.withdraw(12, 0), () -> x.withdraw(-1, 100001), () -> x.set(6, -1), () -> x.set(-1, 10001),
            () -> x.order(12, 9), () -> x.order(-1, 100001), () -> x.order(12, 10), () -> x.draft(13, 12),
            () -> x.draft(20, 0), () -> x.draft(0, -1), () -> x.draft(12, 12), () -> x.revise(20, 9),
            () -> x.revise(-1, 100001), () -> x.share(20), () -> x.share(-1), () -> x.royalty(20, 0),
            () -> x.royalty(-1, 100001), () -> x.dispute(13, 12), () -> x.dispute(20, 0), () -> x.pen(12, 9),
            () -> x.pen(-1, -1), () -> x.piece(20, 10), () -> x.piece(-1, -1), () -> x.between(20, 0, 3),
            () -> x.between(0, 12, -1), () -> x.ifPaid(20, 0, 0), () -> x.ifPaid(0, 0, 12),
            () -> x.ifPaid(13, 1, 12), () -> x.ifPaid(14, 100001, -1), () -> x.bestPiece(12, 0)};
        for (int i = 0; i < indexes.length; i++) {
            Due.refused(x, Due.INDEX, "the first of call " + i, indexes[i]);
        }
        firstNamedArguments();
    }

    private static void firstNamedArguments() {
        PenGuild x = full();
        Due.Call[] arguments = {() -> x.sell(0, 11, 100001), () -> x.sell(11, 11, 1), () -> x.sell(11, 11, -1),
            () -> x.withdraw(11, 100001), () -> x.withdraw(11, 0), () -> x.order(0, 9), () -> x.order(0, 100001),
            () -> x.revise(0, 9), () -> x.revise(13, 100001), () -> x.share(13), () -> x.royalty(14, 0),
            () -> x.royalty(13, 100001), () -> x.append(32), () -> x.append(127), () -> x.ifPaid(14, 0, 0),
            () -> x.ifPaid(13, 100001, 0)};
        for (int i = 0; i < arguments.length; i++) {
            Due.refused(x, Due.ARGUMENT, "the first of call " + i, arguments[i]);
        }
        PenGuild poor = Due.guild(1);
        Due.refused(poor, Due.ARGUMENT, "advance of nothing", () -> poor.advance(0, 0));
        Due.refused(poor, Due.ARGUMENT, "advance of too much", () -> poor.advance(0, 100001));
        poor.kill(poor.order(0, 100));
        Due.write(poor, "1");
        Due.refused(poor, Due.ARGUMENT, "share of a killed one to no pen", () -> poor.share(0));
    }

    private EdgesOfUndo() {
    }
}
