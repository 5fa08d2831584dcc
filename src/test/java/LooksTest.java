/** Promises 21 to 25: the properties of pens, of pieces and between them, the numbers, the settings. */
public final class LooksTest {
    public static void main(String[] args) {
        pen();
        places();
        piece();
        disputers();
        between();
        count();
        setting();
        Due.end();
    }

    private static void pen() {
        PenGuild x = Due.guild(3);
        int first = Due.shared(x, 0, 10000, "0,1");
        Due.drafts(x, first, 1, 1, 2);
        x.accept(first);
        x.advance(1, 600);
        x.royalty(first, 1000);
        x.withdraw(1, 60);
        x.sell(2, 1, 30);
        x.sell(0, 1, 20);
        int second = x.order(2, 500);
        Due.drafts(x, second, 1, 0);
        x.kill(second);
        Due.pen(x, 0, 4500 + 50 + 425 + 20, 0, 4975, 1, 20, 0, 0, 2, 1);
        Due.pen(x, 1, 4500 + 600 + 212 - 60 - 30 - 20, 387, 4925, 1, 0, 3, 60, 3, 0);
        Due.pen(x, 2, 30 + 225, 0, 225, 1, 30, 0, 0, 1, 2);
    }

    private static void places() {
        PenGuild x = Due.guild(5);
        Due.earn(x, 1, 100);
        Due.earn(x, 2, 300);
        Due.earn(x, 4, 100);
        int[] places = {3, 1, 0, 4, 2};
        for (int pen = 0; pen < 5; pen++) {
            Due.answer("place of " + pen, x.pen(pen, 8), places[pen]);
        }
        Due.refused(x, Due.INDEX, "pen(5, 0)", () -> x.pen(5, 0));
        Due.refused(x, Due.INDEX, "pen(-1, 0)", () -> x.pen(-1, 0));
        Due.refused(x, Due.INDEX, "pen(5, 9)", () -> x.pen(5, 9));
        Due.refused(x, Due.ARGUMENT, "pen(0, 9)", () -> x.pen(0, 9));
        Due.refused(x, Due.ARGUMENT, "pen(0, -1)", () -> x.pen(0, -1));
    }

    private static void piece() {
        PenGuild x = Due.guild(4);
        x.order(3, 407);
        Due.piece(x, 0, 3, 407, 0, 1, 0, 1, 1, 0, 40, 0);
        x.draft(0, 1);
        Due.piece(x, 0, 3, 407, 1, 1, 1, 1, 1, 0, 101, 2);
        Due.drafts(x, 0, 1, 3, 2);
        Due.piece(x, 0, 3, 407, 2, 1, 4, 1, 1, 0, 203, 6);
        x.set(5, 49);
        Due.answer("the kill fee as it is now", x.piece(0, 8), 199);
        Due.write(x, "0*4,1*2,3");
        x.share(0);
        x.revise(0, 1000);
        Due.piece(x, 0, 3, 1000, 2, 3, 4, 3, 7, 0, 490, 14);
        x.accept(0);
        x.royalty(0, 70);
        x.royalty(0, 7);
        Due.piece(x, 0, 3, 1000, 3, 3, 4, 3, 7, 77, 0, 14);
        x.order(0, 10);
        x.kill(1);
        Due.piece(x, 1, 0, 10, 4, 1, 0, 1, 1, 0, 0, 0);
        Due.refused(x, Due.INDEX, "piece(2, 0)", () -> x.piece(2, 0));
        Due.refused(x, Due.INDEX, "piece(-1, 0)", () -> x.piece(-1, 0));
        Due.refused(x, Due.INDEX, "piece(2, 10)", () -> x.piece(2, 10));
        Due.refused(x, Due.ARGUMENT, "piece(0, 10)", () -> x.piece(0, 10));
        Due.refused(x, Due.ARGUMENT, "piece(0, -1)", () -> x.piece(0, -1));
    }

    private static void disputers() {
        PenGuild x = Due.guild(12);
        x.order(0, 100);
        Due.drafts(x, 0, 3, 4, 5, 6, 7, 8, 9, 10, 11);
        Due.answer("all who wrote", x.piece(0, 9), 4096 - 8);
        Due.write(x, "3,4,5,6");
        x.share(0);
        Due.answer("those without parts", x.piece(0, 9), 4096 - 128);
        Due.write(x, "11,10*9");
        x.share(0);
        Due.answer("one with a tenth of the parts, too", x.piece(0, 9), 4096 - 8 - 1024);
    }

    private static void between() {
        PenGuild x = Due.guild(3);
        int piece = Due.shared(x, 0, 1000, "0*2,2*3");
        Due.drafts(x, piece, 1, 1);
        x.accept(piece);
        x.royalty(piece, 100);
        Due.between(x, piece, 0, 2, 0, 3);
        Due.between(x, piece, 1, 1, 2, 0);
        Due.between(x, piece, 2, 34, 0, 51);
        Due.write(x, "1");
        x.share(piece);
        x.advance(1, 50);
        x.royalty(piece, 100);
        Due.between(x, piece, 2, 34, 85, 51);
        Due.refused(x, Due.INDEX, "between(1, 0, 0)", () -> x.between(1, 0, 0));
        Due.refused(x, Due.INDEX, "between(-1, 0, 0)", () -> x.between(-1, 0, 0));
        Due.refused(x, Due.INDEX, "between(0, 3, 0)", () -> x.between(0, 3, 0));
        Due.refused(x, Due.INDEX, "between(0, -1, 3)", () -> x.between(0, -1, 3));
        Due.refused(x, Due.ARGUMENT, "between(0, 0, 3)", () -> x.between(0, 0, 3));
        Due.refused(x, Due.ARGUMENT, "between(0, 0, -1)", () -> x.between(0, 0, -1));
    }

    private static void count() {
        PenGuild x = Due.guild(3);
        int first = Due.shared(x, 0, 1000, "0,1");
        x.draft(first, 2);
        x.accept(first);
        int second = Due.shared(x, 0, 1000, "1");
        x.kill(second);
        x.order(2, 10);
        x.nextYear();
        x.nextYear();
        x.set(2, 20);
        x.royalty(first, 100);
        x.dispute(first, 2);
        x.sell(1, 0, 5);
        x.sell(2, 0, 5);
        x.advance(2, 70);
        x.withdraw(0, 100);
        x.withdraw(1, 11);
        int balances = 450 + 5 + 20 - 10 - 100 + 450 + 225 + 20 + 5 - 11 + 5 + 70;
        int[] due = {3, 3, 2, 100 + 25 + 55 - 70, 1350, balances, 70, 111, 1, 1, 1, 2, 45, 6};
        for (int what = 0; what < 14; what++) {
            Due.answer("count(" + what + ")", x.count(what), due[what]);
        }
        Due.answer("no money is lost", x.count(3) + x.count(5) + x.count(7), x.count(4));
        Due.refused(x, Due.ARGUMENT, "count(14)", () -> x.count(14));
        Due.refused(x, Due.ARGUMENT, "count(-1)", () -> x.count(-1));
    }

    private static void setting() {
        PenGuild x = new PenGuild();
        x.set(4, 77);
        x.set(1, 3);
        int[] due = {10, 3, 0, 10, 77, 50};
        for (int i = 0; i < 6; i++) {
            Due.answer("setting(" + i + ")", x.setting(i), due[i]);
        }
        Due.refused(x, Due.INDEX, "setting(6)", () -> x.setting(6));
        Due.refused(x, Due.INDEX, "setting(-1)", () -> x.setting(-1));
    }
}
