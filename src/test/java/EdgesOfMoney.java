/** The sentences of "Terms" on money that comes in. */
final class EdgesOfMoney {
    static void run() {
        roundedDown();
        whatComesIn();
        nothingIsLost();
        toTheReserve();
        toTheByline();
        noIncomes();
        split();
        splitOfFees();
        cap();
        capOfYearsPiecesAndPens();
        capMadeLess();
        withoutACap();
        notCapped();
        withheld();
        oneByOne();
        atMostWhatItOwes();
    }

    /** A guild in which royalties of piece 0, which has these parts, come in by these percents. */
    private static PenGuild paying(int pens, String parts, int reservePercent, int bylinePercent) {
        PenGuild x = Due.guild(pens);
        x.accept(Due.shared(x, 0, 10, parts));
        x.set(0, reservePercent);
        x.set(1, bylinePercent);
        return x;
    }

    private static void roundedDown() {
        Sentences.says(0, "All numbers are integers, amounts are whole units of money; divisions are rounded down,"
            + " unless something else is told.");
        PenGuild x = Due.guild(1);
        int[] fees = {10, 19, 20, 99, 100, 109, 110};
        int[] killFees = {1, 1, 2, 9, 10, 10, 11};
        for (int i = 0; i < fees.length; i++) {
            int piece = x.order(0, fees[i]);
            Due.answer("kill fee of " + fees[i], x.piece(piece, 8), killFees[i]);
            Due.answer("kill of " + fees[i], x.kill(piece), killFees[i]);
        }
        x.set(3, 99);
        Due.answer("99 percent of 101", x.piece(x.order(0, 101), 8), 99);
        x.set(3, 1);
        Due.answer("1 percent of 199", x.piece(x.order(0, 199), 8), 1);
        Due.answer("1 percent of 99", x.piece(x.order(0, 99), 8), 0);
        Due.answer("1 percent of 100000", x.piece(x.order(0, 100000), 8), 1000);
    }

    private static void whatComesIn() {
        Sentences.says(0, "The fee of a piece comes in when it is accepted, its kill fee (fee * kill percent of the"
            + " stage / 100) when it is killed; royalties come in for an accepted piece.");
        PenGuild x = Due.guild(1);
        x.order(0, 10);
        x.draft(0, 0);
        x.revise(0, 100000);
        Due.answer("nothing came in", x.count(4), 0);
        x.accept(0);
        Due.answer("the fee as it was revised", x.count(4), 100000);
        x.royalty(0, 1);
        Due.answer("royalties", x.count(4), 100001);
        Due.refused(x, Due.STATE, "kill of an accepted one", () -> x.kill(0));
        x.order(0, 19);
        x.kill(1);
        Due.answer("a kill fee in stage 0", x.count(4), 100002);
        x.draft(x.order(0, 19), 0);
        x.kill(2);
        Due.answer("a kill fee in stage 1", x.count(4), 100006);
        Due.drafts(x, x.order(0, 19), 0, 0);
        x.kill(3);
        Due.answer("a kill fee in stage 2", x.count(4), 100015);
        Due.refused(x, Due.STATE, "royalties of a killed one", () -> x.royalty(3, 1));
        x.order(0, 10);
        for (int stage = 0; stage < 3; stage++) {
            Due.refused(x, Due.STATE, "royalties in stage " + stage, () -> x.royalty(4, 1));
            x.draft(4, 0);
        }
        Due.answer("nothing else came in", x.count(4), 100015);
    }

    private static void nothingIsLost() {
        Sentences.says(0, "An amount that comes in for a piece is divided so:");
        PenGuild x = paying(4, "0*3,1*5,2*7,3*9", 7, 13);
        x.set(2, 2000);
        for (int amount = 1; amount <= 100000; amount = amount * 3 + 1) {
            int before = x.count(3) + x.count(5);
            int toReserve = x.count(3);
            Due.answer("what comes to the reserve", x.royalty(0, amount), x.count(3) - toReserve);
            Due.answer("all of " + amount, x.count(3) + x.count(5) - before, amount);
        }
        Due.answer("came in", x.count(4), x.count(3) + x.count(5));
        x.set(3, 0);
        int before = x.count(5) + x.count(3);
        x.kill(x.order(0, 100000));
        Due.answer("a kill fee of 0", x.count(5) + x.count(3), before);
    }

    private static void toTheReserve() {
        Sentences.says(0, "1. amount * reserve percent / 100 comes to the reserve.");
        reserves(0, 100000, 0);
        reserves(1, 99, 0);
        reserves(1, 100, 1);
        reserves(10, 9, 0);
        reserves(10, 10, 1);
        reserves(10, 19, 1);
        reserves(10, 20, 2);
        reserves(30, 1, 0);
        reserves(30, 3, 0);
        reserves(30, 4, 1);
        reserves(30, 100000, 30000);
        PenGuild x = Due.guild(1);
        x.set(0, 30);
        x.draft(x.order(0, 13), 0);
        Due.answer("of a fee", x.accept(0), 3);
        x.kill(x.order(0, 133));
        Due.answer("of a kill fee of 13", x.count(3), 6);
        x.set(3, 0);
        x.kill(x.order(0, 100000));
        Due.answer("of a kill fee of 0", x.count(3), 6);
    }

    private static void reserves(int percent, int amount, int due) {
        PenGuild x = paying(1, "0", percent, 0);
        int before = x.count(3);
        Due.answer(percent + " percent of " + amount, x.royalty(0, amount), due);
        Due.answer("reserve by " + percent + " percent of " + amount, x.count(3) - before, due);
        Due.answer("the rest of " + amount, x.between(0, 0, 2), amount - due);
    }

    private static void toTheByline() {
        Sentences.says(0, "2. Of royalties, amount * byline percent / 100 is an income of the owner of the byline"
            + " of the piece.");
        bylineGets(0, 100000, 0);
        bylineGets(1, 99, 0);
        bylineGets(1, 100, 1);
        bylineGets(5, 19, 0);
        bylineGets(5, 20, 1);
        bylineGets(5, 39, 1);
        bylineGets(20, 4, 0);
        bylineGets(20, 5, 1);
        bylineGets(20, 100000, 20000);
        PenGuild x = Due.guild(3);
        x.sell(0, 2, 0);
        x.draft(x.order(0, 1000), 1);
        x.accept(0);
        x.kill(x.order(0, 1000));
        Due.answer("nothing of fees", x.pen(2, 2), 0);
        x.royalty(0, 100);
        Due.answer("to the owner", x.pen(2, 2), 5);
        x.sell(0, 1, 0);
        x.royalty(0, 100);
        Due.answer("no more to who owned it", x.pen(2, 2), 5);
        Due.answer("to the new owner", x.pen(1, 2), 5);
    }

    private static void bylineGets(int percent, int amount, int due) {
        PenGuild x = paying(2, "0", 0, percent);
        x.sell(0, 1, 0);
        x.royalty(0, amount);
        Due.answer(percent + " percent of " + amount, x.pen(1, 2), due);
        Due.answer("balance by " + percent + " percent of " + amount, x.pen(1, 0), due);
        Due.answer("it is nothing by its parts", x.between(0, 1, 2), 0);
        Due.answer("the rest of " + amount, x.between(0, 0, 2), amount - due);
    }

    private static void noIncomes() {
        Sentences.says(0, "(Prices of bylines and advances are no incomes.)");
        PenGuild x = Due.rich(3);
        x.advance(1, 1000);
        x.advance(1, 1);
        Due.pen(x, 1, 101001, 1001, 100000);
        x.sell(1, 0, 500);
        Due.pen(x, 1, 101501, 1001, 100000);
        x.sell(0, 1, 0);
        x.buyBack(0);
        x.sell(0, 1, 100);
        x.buyBack(0);
        Due.pen(x, 1, 101511, 1001, 100000);
        Due.answer("nothing came in", x.count(4), 700000);
    }

    private static void split() {
        Sentences.says(0, "3. The rest is split by the parts: each pen with parts gets rest * its parts / all parts."
            + " What is left then is given out in units of 1, at most one to each: in the order of the remainders"
            + " of these divisions, the greatest one first, of several pens the one with the lowest number first.");
        splits("0", 1, 1, 0, 0, 0);
        splits("3*9", 100000, 0, 0, 0, 100000);
        splits("0,1", 1, 1, 0, 0, 0);
        splits("1,0", 3, 2, 1, 0, 0);
        splits("3,2", 1, 0, 0, 1, 0);
        splits("0,1*2", 1, 0, 1, 0, 0);
        splits("0,1*2", 2, 1, 1, 0, 0);
        splits("0*2,1", 2, 1, 1, 0, 0);
        splits("0*2,1", 4, 3, 1, 0, 0);
        splits("0,1,2,3", 1, 1, 0, 0, 0);
        splits("0,1,2,3", 2, 1, 1, 0, 0);
        splits("3,2,1,0", 3, 1, 1, 1, 0);
        splits("0,1,2,3", 4, 1, 1, 1, 1);
        splits("0*3,1*3", 4, 2, 2, 0, 0);
        splits("0*2,1,2", 2, 1, 1, 0, 0);
        splits("0*2,1,2", 6, 3, 2, 1, 0);
        splits("0*9,1", 4, 4, 0, 0, 0);
        splits("0*9,1", 5, 5, 0, 0, 0);
        splits("0,1*9", 5, 1, 4, 0, 0);
        splits("0*9,1", 6, 5, 1, 0, 0);
        splits("0,1,2*2,3*3", 5, 1, 1, 1, 2);
        splits("0*2,1*3,2*4,3*5", 13, 2, 3, 4, 4);
        splits("0*9,1*9,2*9,3*9", 99999, 25000, 25000, 25000, 24999);
        splits("0*9,1*9,2*9,3*8", 100000, 25715, 25714, 25714, 22857);
        splits("0*7,1*7,2*7,3*6", 100000, 25926, 25926, 25926, 22222);
    }

    /** Of a whole amount the pens get so much by these parts. */
    private static void splits(String parts, int amount, int... due) {
        PenGuild x = paying(4, parts, 0, 0);
        int[] before = new int[4];
        for (int pen = 0; pen < 4; pen++) {
            before[pen] = x.pen(pen, 0);
            Due.answer("what " + pen + " would get of " + amount + " by " + parts, x.ifPaid(0, amount, pen), due[pen]);
        }
        x.royalty(0, amount);
        for (int pen = 0; pen < 4; pen++) {
            Due.answer(pen + " of " + amount + " by " + parts, x.between(0, pen, 2), due[pen]);
            Due.answer("balance of " + pen, x.pen(pen, 0) - before[pen], due[pen]);
        }
    }

    private static void splitOfFees() {
        PenGuild x = Due.guild(4);
        x.set(0, 0);
        x.set(1, 20);
        x.set(2, 1);
        x.accept(Due.shared(x, 3, 11, "3,2,1,0"));
        Due.balances(x, 3, 3, 3, 2);
        Due.write(x, "0,1*2");
        x.order(3, 10);
        x.share(1);
        x.set(3, 50);
        x.kill(1);
        Due.balances(x, 5, 6, 3, 2);
        x.set(3, 1);
        x.order(3, 10);
        x.kill(2);
        Due.balances(x, 5, 6, 3, 2);
    }

    private static void cap() {
        Sentences.says(0, "4. Of royalties, if there is a cap: what a pen gets by 3 of one piece in one year is at most"
            + " the cap; what would be more comes to the reserve (what it got ahead of that stays, also if the cap is"
            + " made less). All else that it gets is an income of it. (Without a cap all that it gets; what a pen gets"
            + " by 3 of royalties is counted for the year also then.)");
        capped(0, 100000, 100000);
        capped(1, 1, 1);
        capped(1, 2, 1);
        capped(1, 100000, 1);
        capped(50, 49, 49);
        capped(50, 50, 50);
        capped(50, 51, 50);
        capped(10000, 9999, 9999);
        capped(10000, 10000, 10000);
        capped(10000, 10001, 10000);
        PenGuild x = paying(1, "0", 0, 0);
        x.set(2, 100);
        Due.answer("below the cap", x.royalty(0, 99), 0);
        Due.answer("to the cap and beyond", x.royalty(0, 2), 1);
        Due.answer("beyond the cap", x.royalty(0, 7), 7);
        Due.answer("got", x.between(0, 0, 2), 100);
        Due.answer("came by the cap", x.count(12), 8);
    }

    /** Of royalties of an amount that all go by parts to one pen, it gets so much with this cap. */
    private static void capped(int cap, int amount, int due) {
        PenGuild x = paying(1, "0", 0, 0);
        x.set(2, cap);
        int before = x.pen(0, 2);
        Due.answer("it would get of " + amount + " with a cap of " + cap, x.ifPaid(0, amount, 0), due);
        Due.answer("more than the cap of " + cap, x.royalty(0, amount), amount - due);
        Due.answer("it gets with a cap of " + cap, x.between(0, 0, 2), due);
        Due.answer("its income with a cap of " + cap, x.pen(0, 2) - before, due);
        Due.answer("by the cap of " + cap, x.count(12), amount - due);
        Due.answer("royalties that came in", x.piece(0, 7), amount);
    }

    private static void capOfYearsPiecesAndPens() {
        PenGuild x = paying(2, "0", 0, 0);
        x.accept(Due.shared(x, 0, 10, "0"));
        x.set(2, 30);
        Due.answer("the first piece", x.royalty(0, 40), 10);
        Due.answer("another piece", x.royalty(1, 40), 10);
        Due.answer("the first piece again", x.royalty(0, 40), 40);
        x.nextYear();
        Due.between(x, 0, 2, 0, 0);
        Due.answer("another year", x.royalty(0, 40), 10);
        x.undo();
        x.undo();
        Due.answer("the year before again", x.royalty(0, 40), 40);
        Due.write(x, "0,1");
        x.share(0);
        Due.answer("another pen", x.royalty(0, 40), 20);
        Due.answer("another pen", x.royalty(0, 40), 20 + 10);
        Due.between(x, 0, 2, 30, 30);
        Due.write(x, "0");
        x.share(0);
        x.nextYear();
        x.royalty(0, 30);
        Due.between(x, 0, 2, 30, 0);
    }

    private static void capMadeLess() {
        PenGuild x = paying(1, "0", 0, 0);
        x.set(2, 100);
        x.royalty(0, 80);
        int balance = x.pen(0, 0);
        x.set(2, 50);
        Due.answer("what it got stays", x.between(0, 0, 2), 80);
        Due.answer("nothing more", x.royalty(0, 10), 10);
        Due.answer("what it got stays", x.between(0, 0, 2), 80);
        x.set(2, 80);
        Due.answer("nothing more", x.royalty(0, 1), 1);
        x.set(2, 81);
        Due.answer("1 more", x.royalty(0, 2), 1);
        Due.answer("balance", x.pen(0, 0), balance + 1);
        x.set(2, 10000);
        Due.answer("much more", x.royalty(0, 10000), 81);
        Due.answer("got", x.between(0, 0, 2), 10000);
    }

    private static void withoutACap() {
        PenGuild x = paying(1, "0", 0, 0);
        Due.answer("without a cap", x.royalty(0, 20000), 0);
        Due.answer("it is counted", x.between(0, 0, 2), 20000);
        x.set(2, 10000);
        Due.answer("with a cap", x.royalty(0, 5), 5);
        x.set(2, 0);
        Due.answer("without a cap", x.royalty(0, 5), 0);
        Due.answer("it is counted", x.between(0, 0, 2), 20005);
        Due.answer("came by the cap", x.count(12), 5);
    }

    private static void notCapped() {
        PenGuild x = paying(2, "1", 0, 20);
        x.set(2, 3);
        int before = x.pen(0, 2);
        Due.answer("the byline's income is not capped", x.royalty(0, 100), 77);
        Due.answer("of the byline", x.pen(0, 2) - before, 20);
        Due.between(x, 0, 2, 0, 3);
        Due.answer("fees are not capped", x.accept(Due.shared(x, 0, 100, "1")), 0);
        Due.between(x, 1, 2, 0, 0);
        Due.answer("fees are not counted", x.royalty(1, 10), 5);
        Due.between(x, 1, 2, 0, 3);
        x.set(1, 0);
        x.set(2, 10);
        Due.write(x, "0");
        x.share(1);
        x.advance(0, 3);
        Due.answer("what is withheld is counted", x.royalty(1, 10), 3);
        Due.between(x, 1, 2, 10, 3);
    }

    private static void withheld() {
        Sentences.says(0, "Of an income of a pen that owes something, half of it, rounded up, but at most what it owes,"
            + " comes to the reserve, and it owes so much less; all else comes to its balance.");
        withheldOf(1, 1, 1);
        withheldOf(1, 9, 1);
        withheldOf(2, 9, 1);
        withheldOf(3, 9, 2);
        withheldOf(15, 9, 8);
        withheldOf(16, 9, 8);
        withheldOf(17, 9, 9);
        withheldOf(18, 9, 9);
        withheldOf(19, 9, 9);
        withheldOf(20, 9, 9);
        withheldOf(100000, 9, 9);
        withheldOf(100000, 49999, 49999);
        withheldOf(100000, 50000, 50000);
        withheldOf(100000, 50001, 50000);
        withheldOf(99999, 50001, 50000);
        withheldOf(99999, 0, 0);
        withheldOf(1, 0, 0);
    }

    /** Of an income by parts of a pen that owes so much. */
    private static void withheldOf(int income, int owed, int due) {
        PenGuild x = Due.rich(2);
        x.set(0, 0);
        x.set(1, 0);
        if (owed > 0) {
            x.advance(1, owed);
        }
        Due.answer("it would get of " + income + ", owing " + owed, x.ifPaid(1, income, 1), income - due);
        Due.answer("withheld of " + income + ", owing " + owed, x.royalty(1, income), due);
        Due.pen(x, 1, 100000 + owed + income - due, owed - due, 100000 + income);
        Due.answer("reserve", x.count(3), 150000 - owed + due);
        Due.answer("owed by all", x.count(6), owed - due);
        Due.answer("all that it got counts", x.between(1, 1, 2), income);
    }

    private static void oneByOne() {
        Sentences.says(0, "(The incomes of one amount come one by one: first that of 2, then those of 3 by the numbers"
            + " of the pens.)");
        PenGuild x = Due.rich(2);
        x.set(0, 0);
        x.set(1, 1);
        x.advance(1, 4);
        Due.write(x, "0*9,1");
        x.share(1);
        x.set(1, 10);
        Due.answer("1 of the byline and 1 by parts would bring", x.ifPaid(1, 11, 1), 0);
        Due.answer("1 of the byline and 1 by parts", x.royalty(1, 11), 2);
        Due.pen(x, 1, 100004, 2, 100002);
        Due.answer("3 of the byline and 3 by parts", x.royalty(1, 30), 2);
        Due.pen(x, 1, 100008, 0, 100008);
    }

    private static void atMostWhatItOwes() {
        PenGuild x = Due.rich(3);
        x.set(0, 0);
        x.set(1, 20);
        x.advance(1, 3);
        x.advance(2, 5);
        Due.write(x, "1,2*3");
        x.share(1);
        Due.answer("3 by the byline and 5 by parts", x.royalty(1, 10), 1 + 1 + 3);
        Due.pen(x, 1, 100003 + 2, 1, 100004);
        Due.pen(x, 2, 100005 + 3, 2, 100006);
        Due.answer("1 by the byline and 2 by parts", x.royalty(1, 10), 1 + 2);
        Due.pen(x, 1, 100005 + 3, 0, 100008);
        Due.pen(x, 2, 100008 + 4, 0, 100012);
        Due.answer("nothing more", x.royalty(1, 10), 0);
    }

    private EdgesOfMoney() {
    }
}
