import java.util.Arrays;

/** The books of a guild of writers; shared/DOC.md tells by numbered promises what each call does. */
public final class PenGuild {
    public static final int NONE = -1;

    private static final int MAX_PENS = 12;
    private static final int MAX_PIECES = 20;
    private static final int MAX_DRAFTS = 9;
    private static final int MAX_AMOUNT = 100000;
    private static final int LEAST_FEE = 10;
    private static final int MAX_SAVED = 6;
    private static final int MAX_SHARERS = 4;
    private static final int MAX_FAIR_PARTS = 4;

    private static final int DRAFTED = 1;
    private static final int REVISED = 2;
    private static final int ACCEPTED = 3;
    private static final int KILLED = 4;

    private static final int RESERVE_PERCENT = 0;
    private static final int BYLINE_PERCENT = 1;
    private static final int CAP = 2;
    private static final int KILL_PERCENT = 3;
    private static final int SETTINGS = 6;
    private static final int[] FIRST_SETTINGS = {10, 5, 0, 10, 25, 50};
    private static final int[] GREATEST_SETTINGS = {30, 20, 10000, 100, 100, 100};

    private static final int PEN_PROPERTIES = 9;
    private static final int PIECE_PROPERTIES = 10;
    private static final int BETWEEN_PROPERTIES = 3;
    private static final int COUNTS = 14;
    private static final int DIGEST_AMOUNT = 100;

    // A ring: the states before the present one, back from it, are the saved ones.
    private final State[] ring = new State[MAX_SAVED + 1];
    private int present;
    private int saved;
    private State now;
    private final PartsText text = new PartsText();

    // Rows for what is worked out within one call; they are made once, since no call makes arrays.
    private final Division division = new Division();
    private final FairParts fair = new FairParts();
    private final int[] best = new int[MAX_PENS];
    private final int[] bestGain = new int[MAX_PENS];

    public PenGuild() {
        for (int i = 0; i < ring.length; i++) {
            ring[i] = new State();
        }
        now = ring[0];
    }

    // ---- pens and bylines

    public int addPen() throws IllegalStateException {
        if (now.pens.size >= MAX_PENS) {
            throw new IllegalStateException("there are 12 pens");
        }
        save();
        int pen = now.pens.size;
        now.pens.owner[pen] = pen;
        now.pens.size = pen + 1;
        return pen;
    }

    public int sell(int byline, int to, int price)
            throws IndexOutOfBoundsException, IllegalArgumentException, IllegalStateException {
        needPen(byline);
        needPen(to);
        needRange(price, 0, MAX_AMOUNT);
        int owner = now.pens.owner[byline];
        if (owner == to) {
            throw new IllegalArgumentException("the pen owns the byline");
        }
        needAtLeast(now.pens.balance[to], price);
        save();
        now.pens.passByline(byline, to, price);
        return owner;
    }

    public int buyBack(int pen) throws IndexOutOfBoundsException, IllegalStateException {
        needPen(pen);
        if (now.pens.owner[pen] == pen) {
            throw new IllegalStateException("the pen owns its byline");
        }
        int price = now.pens.price[pen] + now.pens.price[pen] / 10;
        needAtLeast(now.pens.balance[pen], price);
        save();
        now.pens.passByline(pen, pen, price);
        return price;
    }

    public int advance(int pen, int amount)
            throws IndexOutOfBoundsException, IllegalArgumentException, IllegalStateException {
        needPen(pen);
        needRange(amount, 1, MAX_AMOUNT);
        needAtLeast(now.reserve, amount);
        save();
        now.reserve -= amount;
        now.pens.balance[pen] += amount;
        now.pens.owed[pen] += amount;
        return now.pens.owed[pen];
    }

    public int withdraw(int pen, int amount)
            throws IndexOutOfBoundsException, IllegalArgumentException, IllegalStateException {
        needPen(pen);
        needRange(amount, 1, MAX_AMOUNT);
        needAtLeast(now.pens.balance[pen], amount);
        save();
        now.pens.balance[pen] -= amount;
        now.pens.paidOut[pen] += amount;
        return now.pens.balance[pen];
    }

    public int set(int setting, int value) throws IndexOutOfBoundsException, IllegalArgumentException {
        needSetting(setting);
        needRange(value, 0, GREATEST_SETTINGS[setting]);
        save();
        int previous = now.settings[setting];
        now.settings[setting] = value;
        return previous;
    }

    public int nextYear() {
        save();
        now.year++;
        Arrays.fill(now.pieces.gotThisYear, 0);
        return now.year;
    }

    // ---- pieces

    public int order(int byline, int fee)
            throws IndexOutOfBoundsException, IllegalArgumentException, IllegalStateException {
        needPen(byline);
        needRange(fee, LEAST_FEE, MAX_AMOUNT);
        if (now.pieces.size >= MAX_PIECES) {
            throw new IllegalStateException("there are 20 pieces");
        }
        save();
        return now.pieces.begin(byline, fee);
    }

    public int draft(int piece, int pen) throws IndexOutOfBoundsException, IllegalStateException {
        needPiece(piece);
        needPen(pen);
        needUnended(piece);
        int before = now.pieces.allDrafts(piece);
        if (before >= MAX_DRAFTS) {
            throw new IllegalStateException("the piece has 9 drafts");
        }
        save();
        now.pieces.drafts[at(piece, pen)]++;
        now.pieces.stage[piece] = before == 0 ? DRAFTED : REVISED;
        return now.pieces.stage[piece];
    }

    public int revise(int piece, int fee)
            throws IndexOutOfBoundsException, IllegalArgumentException, IllegalStateException {
        needPiece(piece);
        needRange(fee, LEAST_FEE, MAX_AMOUNT);
        needUnended(piece);
        save();
        int previous = now.pieces.fee[piece];
        now.pieces.fee[piece] = fee;
        now.pieces.contract[piece]++;
        return previous;
    }

    public int share(int piece) throws IndexOutOfBoundsException, IllegalArgumentException, IllegalStateException {
        needPiece(piece);
        if (!text.isList() || text.greatestPen() >= now.pens.size) {
            throw new IllegalArgumentException("the buffer is no list of parts of pens that there are");
        }
        if (now.pieces.stage[piece] == KILLED) {
            throw new IllegalStateException("the piece is killed");
        }
        save();
        now.pieces.takeParts(piece, text.parts);
        now.pieces.contract[piece]++;
        text.length = 0;
        return now.pieces.allParts(piece);
    }

    public int accept(int piece) throws IndexOutOfBoundsException, IllegalStateException {
        needPiece(piece);
        int stage = now.pieces.stage[piece];
        if (stage != DRAFTED && stage != REVISED) {
            throw new IllegalStateException("the stage of the piece is not 1 or 2");
        }
        save();
        now.pieces.stage[piece] = ACCEPTED;
        int fee = now.pieces.fee[piece];
        division.divideFee(now, piece, fee);
        return bringIn(fee);
    }

    public int kill(int piece) throws IndexOutOfBoundsException, IllegalStateException {
        needPiece(piece);
        needUnended(piece);
        save();
        int fee = now.killFee(piece);
        now.pieces.stage[piece] = KILLED;
        division.divideFee(now, piece, fee);
        bringIn(fee);
        return fee;
    }

    public int royalty(int piece, int amount)
            throws IndexOutOfBoundsException, IllegalArgumentException, IllegalStateException {
        needPiece(piece);
        needRange(amount, 1, MAX_AMOUNT);
        needAccepted(piece);
        save();
        division.divideRoyalty(now, piece, amount);
        now.pieces.royalties[piece] += amount;
        now.pieces.addToYear(piece, division.byParts);
        now.overCap += division.overCap;
        return bringIn(amount);
    }

    public int dispute(int piece, int pen) throws IndexOutOfBoundsException, IllegalStateException {
        needPiece(piece);
        needPen(pen);
        if (!isIn(now.pieces.disputers(piece), pen)) {
            throw new IllegalStateException("the pen cannot dispute the parts");
        }
        save();
        now.pieces.takePartsFromDrafts(piece);
        now.pieces.contract[piece]++;
        now.disputes++;
        return now.pieces.parts[at(piece, pen)];
    }

    // ---- texts

    public int append(int code) throws IllegalArgumentException, IllegalStateException {
        needRange(code, PartsText.LEAST_CODE, PartsText.GREATEST_CODE);
        if (text.length >= PartsText.MAX_LENGTH) {
            throw new IllegalStateException("the buffer has 60 characters");
        }
        text.codes[text.length] = code;
        text.length++;
        return text.length;
    }

    public int clearBuffer() {
        int length = text.length;
        text.length = 0;
        return length;
    }

    public int firstError() {
        return text.readToError();
    }

    public int undo() throws IllegalStateException {
        if (saved == 0) {
            throw new IllegalStateException("there is no saved state");
        }
        present = (present + MAX_SAVED) % (MAX_SAVED + 1);
        now = ring[present];
        saved--;
        return saved;
    }

    // ---- what there is

    public int pen(int pen, int what) throws IndexOutOfBoundsException, IllegalArgumentException {
        needPen(pen);
        needRange(what, 0, PEN_PROPERTIES - 1);
        Pens pens = now.pens;
        switch (what) {
            case 0: return pens.balance[pen];
            case 1: return pens.owed[pen];
            case 2: return pens.income[pen];
            case 3: return pens.owner[pen];
            case 4: return pens.price[pen];
            case 5: return pens.bylinesOf(pen);
            case 6: return pens.paidOut[pen];
            case 7: return now.pieces.draftsBy(pen);
            default: return pens.placeOf(pen);
        }
    }

    public int piece(int piece, int what) throws IndexOutOfBoundsException, IllegalArgumentException {
        needPiece(piece);
        needRange(what, 0, PIECE_PROPERTIES - 1);
        Pieces pieces = now.pieces;
        switch (what) {
            case 0: return pieces.byline[piece];
            case 1: return pieces.fee[piece];
            case 2: return pieces.stage[piece];
            case 3: return pieces.contract[piece];
            case 4: return pieces.allDrafts(piece);
            case 5: return pieces.sharers(piece);
            case 6: return pieces.allParts(piece);
            case 7: return pieces.royalties[piece];
            case 8: return now.killFee(piece);
            default: return pieces.disputers(piece);
        }
    }

    public int between(int piece, int pen, int what) throws IndexOutOfBoundsException, IllegalArgumentException {
        needPiece(piece);
        needPen(pen);
        needRange(what, 0, BETWEEN_PROPERTIES - 1);
        switch (what) {
            case 0: return now.pieces.parts[at(piece, pen)];
            case 1: return now.pieces.drafts[at(piece, pen)];
            default: return now.pieces.gotThisYear[at(piece, pen)];
        }
    }

    public int count(int what) throws IllegalArgumentException {
        needRange(what, 0, COUNTS - 1);
        switch (what) {
            case 0: return now.pens.size;
            case 1: return now.pieces.size;
            case 2: return now.year;
            case 3: return now.reserve;
            case 4: return now.cameIn;
            case 5: return sum(now.pens.balance);
            case 6: return sum(now.pens.owed);
            case 7: return sum(now.pens.paidOut);
            case 8: return now.pieces.inStage(ACCEPTED);
            case 9: return now.pieces.inStage(KILLED);
            case 10: return now.disputes;
            case 11: return now.pens.bylinesAway();
            case 12: return now.overCap;
            default: return saved;
        }
    }

    public int setting(int setting) throws IndexOutOfBoundsException {
        needSetting(setting);
        return now.settings[setting];
    }

    // ---- what would be; nothing is changed

    public int ifPaid(int piece, int amount, int pen)
            throws IndexOutOfBoundsException, IllegalArgumentException, IllegalStateException {
        needPiece(piece);
        needPen(pen);
        needRange(amount, 1, MAX_AMOUNT);
        needAccepted(piece);
        division.divideRoyalty(now, piece, amount);
        return gainOf(pen);
    }

    public int fairest(int piece, int pen) throws IndexOutOfBoundsException {
        needPiece(piece);
        needPen(pen);
        fair.find(now.pieces, piece);
        return fair.parts[pen];
    }

    public int bestPiece(int pen, int amount) throws IndexOutOfBoundsException, IllegalArgumentException {
        needPen(pen);
        needRange(amount, 1, MAX_AMOUNT);
        findBest(amount);
        return best[pen];
    }

    public double spread() {
        int total = sum(now.pens.balance);
        if (total == 0) {
            return 0.0;
        }
        return (double) now.pens.differences() / ((double) now.pens.size * (double) total);
    }

    public long digest() {
        long hash = 2281L;
        for (int what = 0; what < COUNTS; what++) {
            hash = mix(hash, count(what));
        }
        for (int i = 0; i < SETTINGS; i++) {
            hash = mix(hash, now.settings[i]);
        }
        findBest(DIGEST_AMOUNT);
        for (int pen = 0; pen < now.pens.size; pen++) {
            hash = mixPen(hash, pen);
        }
        for (int piece = 0; piece < now.pieces.size; piece++) {
            hash = mixPiece(hash, piece);
        }
        hash = mix(hash, bitsOf(spread()));
        hash = mix(hash, text.length);
        for (int i = 0; i < text.length; i++) {
            hash = mix(hash, text.codes[i]);
        }
        return hash;
    }

    // ---- what the calls need

    private void needPen(int pen) {
        if (pen < 0 || pen >= now.pens.size) {
            throw new IndexOutOfBoundsException("no such pen or byline");
        }
    }

    private void needPiece(int piece) {
        if (piece < 0 || piece >= now.pieces.size) {
            throw new IndexOutOfBoundsException("no such piece");
        }
    }

    private static void needSetting(int setting) {
        if (setting < 0 || setting >= SETTINGS) {
            throw new IndexOutOfBoundsException("no such setting");
        }
    }

    private static void needRange(int value, int least, int greatest) {
        if (value < least || value > greatest) {
            throw new IllegalArgumentException("a value is out of range");
        }
    }

    private static void needAtLeast(int there, int wanted) {
        if (there < wanted) {
            throw new IllegalStateException("there is not enough money");
        }
    }

    private void needUnended(int piece) {
        if (now.pieces.stage[piece] >= ACCEPTED) {
            throw new IllegalStateException("the piece is accepted or killed");
        }
    }

    private void needAccepted(int piece) {
        if (now.pieces.stage[piece] != ACCEPTED) {
            throw new IllegalStateException("the piece is not accepted");
        }
    }

    // ---- how the calls work

    private void save() {
        int next = (present + 1) % (MAX_SAVED + 1);
        ring[next].copyFrom(now);
        now = ring[next];
        present = next;
        saved = Math.min(saved + 1, MAX_SAVED);
    }

    /** Books the amount as it stands divided; returns what of it comes to the reserve. */
    private int bringIn(int amount) {
        int toReserve = division.byPercent + division.overCap;
        toReserve += now.pens.earn(division.bylineOwner, division.toByline);
        for (int pen = 0; pen < now.pens.size; pen++) {
            toReserve += now.pens.earn(pen, division.byParts[pen]);
        }
        now.reserve += toReserve;
        now.cameIn += amount;
        return toReserve;
    }

    /** By how much the balance of a pen would increase if the amount came in as it stands divided. */
    private int gainOf(int pen) {
        int owed = now.pens.owed[pen];
        int ofByline = pen == division.bylineOwner ? division.toByline : 0;
        int withheldFirst = withheld(ofByline, owed);
        int ofParts = division.byParts[pen];
        int withheldThen = withheld(ofParts, owed - withheldFirst);
        return ofByline - withheldFirst + ofParts - withheldThen;
    }

    /** For all pens at once, since the digest wants all and a piece's division serves each of them. */
    private void findBest(int amount) {
        Arrays.fill(best, NONE);
        for (int piece = 0; piece < now.pieces.size; piece++) {
            if (now.pieces.stage[piece] == ACCEPTED) {
                division.divideRoyalty(now, piece, amount);
                preferIfBetter(piece);
            }
        }
    }

    private void preferIfBetter(int piece) {
        for (int pen = 0; pen < now.pens.size; pen++) {
            int gain = gainOf(pen);
            if (best[pen] == NONE || gain > bestGain[pen]) {
                best[pen] = piece;
                bestGain[pen] = gain;
            }
        }
    }

    private long mixPen(long before, int pen) {
        long hash = before;
        for (int what = 0; what < PEN_PROPERTIES; what++) {
            hash = mix(hash, pen(pen, what));
        }
        return mix(hash, best[pen]);
    }

    private long mixPiece(long before, int piece) {
        long hash = before;
        for (int what = 0; what < PIECE_PROPERTIES; what++) {
            hash = mix(hash, piece(piece, what));
        }
        fair.find(now.pieces, piece);
        for (int pen = 0; pen < now.pens.size; pen++) {
            for (int what = 0; what < BETWEEN_PROPERTIES; what++) {
                hash = mix(hash, between(piece, pen, what));
            }
            hash = mix(hash, fair.parts[pen]);
        }
        return hash;
    }

    private static long mix(long hash, long value) {
        return 31L * hash + value;
    }

    /** The bits of a double from 0 up to 1, worked out since Double is not in the language's library. */
    private static long bitsOf(double value) {
        if (!(value > 0.0)) {
            return 0L;
        }
        double scaled = value;
        long exponent = 1023L;
        for (int i = 0; i < 1022 && scaled < 1.0; i++) {
            scaled = scaled * 2.0;
            exponent--;
        }
        return (exponent << 52) + (long) ((scaled - 1.0) * (double) (1L << 52));
    }

    private static int withheld(int income, int owed) {
        return Math.min(income - income / 2, owed);
    }

    private static int at(int piece, int pen) {
        return piece * MAX_PENS + pen;
    }

    private static boolean isIn(int bits, int pen) {
        return (bits >> pen & 1) != 0;
    }

    private static int sum(int[] row) {
        int all = 0;
        for (int value : row) {
            all += value;
        }
        return all;
    }

    private static int sumOf(int[] rows, int piece) {
        int all = 0;
        for (int pen = 0; pen < MAX_PENS; pen++) {
            all += rows[at(piece, pen)];
        }
        return all;
    }

    private static void copyRow(int[] from, int[] to) {
        System.arraycopy(from, 0, to, 0, Math.min(from.length, to.length));
    }

    /** All that undo() restores. */
    private static final class State {
        final Pens pens = new Pens();
        final Pieces pieces = new Pieces();
        final int[] settings = FIRST_SETTINGS.clone();
        int year;
        int reserve;
        int cameIn;
        int overCap;
        int disputes;

        void copyFrom(State other) {
            pens.copyFrom(other.pens);
            pieces.copyFrom(other.pieces);
            copyRow(other.settings, settings);
            year = other.year;
            reserve = other.reserve;
            cameIn = other.cameIn;
            overCap = other.overCap;
            disputes = other.disputes;
        }

        int killFee(int piece) {
            int stage = pieces.stage[piece];
            if (stage < 0 || stage > REVISED) {
                return 0;
            }
            return pieces.fee[piece] * settings[KILL_PERCENT + stage] / 100;
        }
    }

    /** The pens, and the bylines, which have their numbers. */
    private static final class Pens {
        int size;
        final int[] balance = new int[MAX_PENS];
        final int[] owed = new int[MAX_PENS];
        final int[] income = new int[MAX_PENS];
        final int[] owner = new int[MAX_PENS];
        final int[] price = new int[MAX_PENS];
        final int[] paidOut = new int[MAX_PENS];

        void copyFrom(Pens other) {
            size = other.size;
            copyRow(other.balance, balance);
            copyRow(other.owed, owed);
            copyRow(other.income, income);
            copyRow(other.owner, owner);
            copyRow(other.price, price);
            copyRow(other.paidOut, paidOut);
        }

        void passByline(int byline, int to, int asked) {
            balance[to] -= asked;
            balance[owner[byline]] += asked;
            owner[byline] = to;
            price[byline] = asked;
        }

        /** An income of a pen; returns what of it is withheld. */
        int earn(int pen, int amount) {
            int kept = withheld(amount, owed[pen]);
            income[pen] += amount;
            owed[pen] -= kept;
            balance[pen] += amount - kept;
            return kept;
        }

        int bylinesOf(int pen) {
            int owned = 0;
            for (int byline = 0; byline < size; byline++) {
                owned += owner[byline] == pen ? 1 : 0;
            }
            return owned;
        }

        int bylinesAway() {
            int away = 0;
            for (int byline = 0; byline < size; byline++) {
                away += owner[byline] != byline ? 1 : 0;
            }
            return away;
        }

        int placeOf(int pen) {
            int ahead = 0;
            for (int other = 0; other < size; other++) {
                boolean isAhead = balance[other] > balance[pen] || balance[other] == balance[pen] && other < pen;
                ahead += isAhead ? 1 : 0;
            }
            return ahead;
        }

        int differences() {
            int all = 0;
            for (int first = 0; first < size; first++) {
                for (int second = first + 1; second < size; second++) {
                    all += Math.abs(balance[first] - balance[second]);
                }
            }
            return all;
        }
    }

    /** The pieces; what a pen has to do with a piece stands in rows of 12 for each piece. */
    private static final class Pieces {
        int size;
        final int[] byline = new int[MAX_PIECES];
        final int[] fee = new int[MAX_PIECES];
        final int[] stage = new int[MAX_PIECES];
        final int[] contract = new int[MAX_PIECES];
        final int[] royalties = new int[MAX_PIECES];
        final int[] parts = new int[MAX_PIECES * MAX_PENS];
        final int[] drafts = new int[MAX_PIECES * MAX_PENS];
        final int[] gotThisYear = new int[MAX_PIECES * MAX_PENS];

        void copyFrom(Pieces other) {
            size = other.size;
            copyRow(other.byline, byline);
            copyRow(other.fee, fee);
            copyRow(other.stage, stage);
            copyRow(other.contract, contract);
            copyRow(other.royalties, royalties);
            copyRow(other.parts, parts);
            copyRow(other.drafts, drafts);
            copyRow(other.gotThisYear, gotThisYear);
        }

        /** A new piece; its stage and its other rows are 0 still. */
        int begin(int ofByline, int forFee) {
            int piece = size;
            byline[piece] = ofByline;
            fee[piece] = forFee;
            contract[piece] = 1;
            parts[at(piece, ofByline)] = 1;
            size = piece + 1;
            return piece;
        }

        int allParts(int piece) {
            return sumOf(parts, piece);
        }

        int allDrafts(int piece) {
            return sumOf(drafts, piece);
        }

        int draftsBy(int pen) {
            int all = 0;
            for (int piece = 0; piece < size; piece++) {
                all += drafts[at(piece, pen)];
            }
            return all;
        }

        int sharers(int piece) {
            int all = 0;
            for (int pen = 0; pen < MAX_PENS; pen++) {
                all += parts[at(piece, pen)] > 0 ? 1 : 0;
            }
            return all;
        }

        int inStage(int wanted) {
            int all = 0;
            for (int piece = 0; piece < size; piece++) {
                all += stage[piece] == wanted ? 1 : 0;
            }
            return all;
        }

        /** The pens that can dispute the parts, as bits. */
        int disputers(int piece) {
            if (stage[piece] == KILLED) {
                return 0;
            }
            int allParts = allParts(piece);
            int allDrafts = allDrafts(piece);
            int bits = 0;
            for (int pen = 0; pen < MAX_PENS; pen++) {
                boolean can = parts[at(piece, pen)] * allDrafts < drafts[at(piece, pen)] * allParts;
                bits |= can ? 1 << pen : 0;
            }
            return bits;
        }

        void takeParts(int piece, int[] from) {
            for (int pen = 0; pen < MAX_PENS && pen < from.length; pen++) {
                parts[at(piece, pen)] = from[pen];
            }
        }

        void takePartsFromDrafts(int piece) {
            int writers = writers(piece);
            for (int pen = 0; pen < MAX_PENS; pen++) {
                parts[at(piece, pen)] = isIn(writers, pen) ? drafts[at(piece, pen)] : 0;
            }
        }

        void addToYear(int piece, int[] got) {
            for (int pen = 0; pen < MAX_PENS && pen < got.length; pen++) {
                gotThisYear[at(piece, pen)] += got[pen];
            }
        }

        /** The pens who wrote drafts, as bits; if they are more than 4, those 4 with the most. */
        int writers(int piece) {
            int bits = 0;
            for (int i = 0; i < MAX_SHARERS; i++) {
                int next = writerWithMost(piece, bits);
                bits |= next == NONE ? 0 : 1 << next;
            }
            return bits;
        }

        private int writerWithMost(int piece, int leftOut) {
            int found = NONE;
            int most = 0;
            for (int pen = 0; pen < MAX_PENS; pen++) {
                if (drafts[at(piece, pen)] > most && !isIn(leftOut, pen)) {
                    found = pen;
                    most = drafts[at(piece, pen)];
                }
            }
            return found;
        }
    }

    /** How one amount that comes in for a piece is divided, ahead of what is withheld. */
    private static final class Division {
        int byPercent;
        int overCap;
        int bylineOwner;
        int toByline;
        final int[] byParts = new int[MAX_PENS];
        private final int[] remainders = new int[MAX_PENS];

        void divideFee(State state, int piece, int amount) {
            begin(state, piece, amount);
            split(state.pieces, piece, amount - byPercent);
        }

        void divideRoyalty(State state, int piece, int amount) {
            begin(state, piece, amount);
            toByline = amount * state.settings[BYLINE_PERCENT] / 100;
            split(state.pieces, piece, amount - byPercent - toByline);
            if (state.settings[CAP] > 0) {
                cutToCap(state.pieces, piece, state.settings[CAP]);
            }
        }

        private void begin(State state, int piece, int amount) {
            byPercent = amount * state.settings[RESERVE_PERCENT] / 100;
            overCap = 0;
            bylineOwner = state.pens.owner[state.pieces.byline[piece]];
            toByline = 0;
        }

        private void split(Pieces pieces, int piece, int rest) {
            int all = Math.max(1, pieces.allParts(piece));
            int left = rest;
            for (int pen = 0; pen < MAX_PENS; pen++) {
                int product = rest * pieces.parts[at(piece, pen)];
                byParts[pen] = product / all;
                remainders[pen] = product % all;
                left -= byParts[pen];
            }
            for (int unit = 0; unit < left && unit < MAX_SHARERS; unit++) {
                giveUnit();
            }
        }

        /** There are fewer units than remainders above 0, so a remainder of 0 never gets one. */
        private void giveUnit() {
            int first = 0;
            for (int pen = 1; pen < MAX_PENS; pen++) {
                first = remainders[pen] > remainders[first] ? pen : first;
            }
            byParts[first]++;
            remainders[first] = 0;
        }

        private void cutToCap(Pieces pieces, int piece, int cap) {
            for (int pen = 0; pen < MAX_PENS; pen++) {
                int room = Math.max(0, cap - pieces.gotThisYear[at(piece, pen)]);
                int over = Math.max(0, byParts[pen] - room);
                byParts[pen] -= over;
                overCap += over;
            }
        }
    }

    /** The search for the fairest parts of a piece. */
    private static final class FairParts {
        /** What was found: the parts of each pen. */
        final int[] parts = new int[MAX_PENS];
        private final int[] writers = new int[MAX_SHARERS];
        private final int[] drafts = new int[MAX_SHARERS];
        private final int[] trial = new int[MAX_SHARERS];
        private int size;
        private int allDrafts;

        /**
         * The trials come in the order of the last rule, so that only a better one takes the place of
         * the best one. Behind one without a gap come only multiples of it, which have more parts.
         */
        void find(Pieces pieces, int piece) {
            begin(pieces, piece);
            int trials = size == 0 ? 0 : 1 << 2 * size;
            // A gap of 1 of 0 parts: each trial is better.
            int bestGap = 1;
            int bestSum = 0;
            for (int i = 0; i < trials && bestGap > 0; i++) {
                int sum = setTrial(i);
                int gap = gap(sum);
                int compared = gap * bestSum - bestGap * sum;
                if (compared < 0 || compared == 0 && sum < bestSum) {
                    bestGap = gap;
                    bestSum = sum;
                    keepTrial();
                }
            }
        }

        private void begin(Pieces pieces, int piece) {
            int bits = pieces.writers(piece);
            size = 0;
            allDrafts = 0;
            for (int pen = 0; pen < MAX_PENS; pen++) {
                parts[pen] = 0;
                if (isIn(bits, pen) && size < MAX_SHARERS) {
                    writers[size] = pen;
                    drafts[size] = pieces.drafts[at(piece, pen)];
                    allDrafts += drafts[size];
                    size++;
                }
            }
        }

        /** The trial's number has two bits for each pen, those of the first pen ahead; returns all its parts. */
        private int setTrial(int number) {
            int bits = number;
            int sum = 0;
            for (int i = size - 1; i >= 0; i--) {
                trial[i] = bits % MAX_FAIR_PARTS + 1;
                bits = bits / MAX_FAIR_PARTS;
                sum += trial[i];
            }
            return sum;
        }

        /** The greatest difference of the trial, times all its parts and all drafts. */
        private int gap(int sum) {
            int greatest = 0;
            for (int i = 0; i < size; i++) {
                greatest = Math.max(greatest, Math.abs(trial[i] * allDrafts - drafts[i] * sum));
            }
            return greatest;
        }

        private void keepTrial() {
            for (int i = 0; i < size; i++) {
                parts[writers[i]] = trial[i];
            }
        }
    }

    /** The buffer, and how a list of parts is read from it. */
    private static final class PartsText {
        static final int LEAST_CODE = 33;
        static final int GREATEST_CODE = 126;
        static final int MAX_LENGTH = 60;

        // What the reader waits for next.
        private static final int NUMBER = 0;
        private static final int END_OF_ONE = 1;
        private static final int STAR_OR_COMMA = 2;
        private static final int FACTOR = 3;
        private static final int COMMA = 4;

        final int[] codes = new int[MAX_LENGTH];
        int length;
        /** The parts of the pens of the list that was read. */
        final int[] parts = new int[MAX_PENS];
        private int place;
        private int itemPen;
        private int itemParts;
        private int itemsEnded;

        boolean isList() {
            if (readToError() < length || place == NUMBER || place == FACTOR) {
                return false;
            }
            if (parts[itemPen] != 0) {
                return false;
            }
            endItem();
            return true;
        }

        int greatestPen() {
            int greatest = NONE;
            for (int pen = 0; pen < MAX_PENS; pen++) {
                greatest = parts[pen] > 0 ? pen : greatest;
            }
            return greatest;
        }

        /** Reads as far as there is no syntax error, and returns how far that is. */
        int readToError() {
            Arrays.fill(parts, 0);
            place = NUMBER;
            itemPen = 0;
            itemParts = 1;
            itemsEnded = 0;
            for (int i = 0; i < length; i++) {
                if (!takes(codes[i])) {
                    return i;
                }
            }
            return length;
        }

        private boolean takes(int code) {
            switch (place) {
                case NUMBER: return takesDigit(code);
                case END_OF_ONE: return takesAfterOne(code);
                case STAR_OR_COMMA: return takesStar(code) || takesComma(code);
                case FACTOR: return takesFactor(code);
                default: return takesComma(code);
            }
        }

        private boolean takesDigit(int code) {
            if (code == '1') {
                return takesOne();
            }
            return code >= '0' && code <= '9' && takesPen(code - '0');
        }

        /** A 1 can begin three numbers, so it is no error while one of these pens is not in the list. */
        private boolean takesOne() {
            if (parts[1] != 0 && parts[10] != 0 && parts[11] != 0) {
                return false;
            }
            itemPen = 1;
            place = END_OF_ONE;
            return true;
        }

        private boolean takesAfterOne(int code) {
            if (code == '0' || code == '1') {
                return takesPen(10 + code - '0');
            }
            return parts[1] == 0 && (takesStar(code) || takesComma(code));
        }

        private boolean takesPen(int pen) {
            if (pen < 0 || pen >= MAX_PENS || parts[pen] != 0) {
                return false;
            }
            itemPen = pen;
            place = STAR_OR_COMMA;
            return true;
        }

        private boolean takesStar(int code) {
            if (code != '*') {
                return false;
            }
            place = FACTOR;
            return true;
        }

        private boolean takesFactor(int code) {
            if (code < '2' || code > '9') {
                return false;
            }
            itemParts = code - '0';
            place = COMMA;
            return true;
        }

        private boolean takesComma(int code) {
            if (code != ',' || itemsEnded >= MAX_SHARERS - 1) {
                return false;
            }
            endItem();
            place = NUMBER;
            return true;
        }

        private void endItem() {
            parts[itemPen] = itemParts;
            itemParts = 1;
            itemsEnded++;
        }
    }
}
