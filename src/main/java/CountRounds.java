import java.util.Arrays;
import java.util.NoSuchElementException;

/** Counting a warehouse in rounds: see README.md for its use. */
public final class CountRounds {
    private static final int MOST_PLACES = 20;
    private static final int MOST_MOVES = 60;
    private static final int MOST_COUNTS = 20;
    private static final int MOST_PIECES = 1000000;
    private static final int MOST_CYCLE = 1000;
    private static final int MOST_TOLERANCE = 1000;
    private static final int LATEST_DAY = 10000;
    private static final int KINDS = 3;
    private static final int GOODS = 6;
    private static final int PERSONS = 6;

    private static final int ALL_KINDS = -1;
    private static final int NOBODY = -1;
    private static final int NEVER = -1;
    private static final int NONE = -1;
    private static final int FIRST_CYCLE = 30;

    private static final int CHOSEN = 0;
    private static final int FROZEN = 1;
    private static final int ENDED = 2;

    private static final int FIRST_PLACE_TOLD = 10;

    private static final long SEED_FACTOR = 6364136223846793005L;
    private static final long SEED_STEP = 1442695040888963407L;
    private static final int SEED_SHIFT = 33;

    // Euclid needs fewer steps than this for any two ints.
    private static final int MOST_DIVISIONS = 64;

    private final Place[] places = new Place[MOST_PLACES];
    private final Transfer[] transfers = new Transfer[MOST_MOVES];
    private final Sheet[] sheets = new Sheet[MOST_COUNTS];
    private final int[] cycles = new int[KINDS];
    private final int[] tolerances = new int[KINDS];
    private final int[] rights = new int[PERSONS];
    // Kept between rounds only so that no round makes a row of its own for it.
    private final int[] candidates = new int[MOST_PLACES];
    private int placesMade;
    private int transfersMade;
    private int sheetsMade;
    private int today;
    private boolean waits = true;
    private int timesCounted;
    private int timesRight;

    public CountRounds() {
        Arrays.fill(cycles, FIRST_CYCLE);
    }

    public int place(int kind) throws IllegalArgumentException, UnsupportedOperationException {
        if (!isKind(kind)) {
            throw new IllegalArgumentException("no such class");
        }
        if (placesMade >= MOST_PLACES) {
            throw new UnsupportedOperationException("no room for a place");
        }
        int number = placesMade;
        places[number] = new Place(kind);
        placesMade++;
        return number;
    }

    public void stock(int place, int good, int n) throws NoSuchElementException, IllegalArgumentException {
        Place at = placeNumbered(place);
        if (!isGood(good) || !isPieces(n)) {
            throw new IllegalArgumentException("no such good or number of pieces");
        }
        at.pieces[good] = n;
    }

    public void cycle(int kind, int days, int tolerance) throws IllegalArgumentException {
        if (!isKind(kind) || !isWithin(days, 1, MOST_CYCLE) || !isWithin(tolerance, 0, MOST_TOLERANCE)) {
            throw new IllegalArgumentException("no such class, cycle or tolerance");
        }
        cycles[kind] = days;
        tolerances[kind] = tolerance;
    }

    public void right(int person, int n) throws IllegalArgumentException {
        if (!isPerson(person) || !isPieces(n)) {
            throw new IllegalArgumentException("no such person or right");
        }
        rights[person] = n;
    }

    public void setting(int wait) throws IllegalArgumentException {
        if (!isWithin(wait, 0, 1)) {
            throw new IllegalArgumentException("no such setting");
        }
        waits = wait == 0;
    }

    public void day(int day) throws IllegalArgumentException, IllegalStateException {
        if (!isDay(day)) {
            throw new IllegalArgumentException("no such day");
        }
        if (day < today) {
            throw new IllegalStateException("it was a later day");
        }
        today = day;
    }

    public int move(int from, int to, int good, int n)
            throws NoSuchElementException, IllegalArgumentException, IllegalStateException,
            UnsupportedOperationException {
        Place source = placeNumbered(from);
        placeNumbered(to);
        if (from == to || !isGood(good) || !isWithin(n, 1, MOST_PIECES)) {
            throw new IllegalArgumentException("the same place, or no such good or number of pieces");
        }
        if (source.pieces[good] < n) {
            throw new IllegalStateException("not so many are booked");
        }
        if (transfersMade >= MOST_MOVES) {
            throw new UnsupportedOperationException("no room for a move");
        }
        source.pieces[good] -= n;
        transfers[transfersMade] = new Transfer(from, to, good, n);
        transfersMade++;
        return transfersMade;
    }

    public void end(int move) throws NoSuchElementException, IllegalStateException {
        Transfer transfer = transferNumbered(move);
        Place target = placeNumbered(transfer.to);
        int after = target.pieces[transfer.good] + transfer.pieces;
        if (!transfer.open || !isPieces(after)) {
            throw new IllegalStateException("it is ended, or too many would be booked");
        }
        target.pieces[transfer.good] = after;
        transfer.open = false;
    }

    public int moves(int place) throws NoSuchElementException {
        placeNumbered(place);
        return openMovesAt(place);
    }

    public int round(int kind, int many, long seed)
            throws IllegalArgumentException, IllegalStateException, UnsupportedOperationException {
        boolean kindExists = kind == ALL_KINDS || isKind(kind);
        if (!kindExists || !isWithin(many, 1, MOST_PLACES)) {
            throw new IllegalArgumentException("no such class or number of places");
        }
        int free = gatherCandidates(kind);
        if (free == 0) {
            throw new IllegalStateException("there is no such place");
        }
        if (sheetsMade >= MOST_COUNTS) {
            throw new UnsupportedOperationException("no room for a count");
        }
        int[] chosen = chooseCandidates(free, Math.min(many, free), seed);
        sheets[sheetsMade] = new Sheet(chosen);
        sheetsMade++;
        return sheetsMade;
    }

    public int freeze(int count) throws NoSuchElementException, IllegalStateException {
        Sheet sheet = sheetNumbered(count);
        if (sheet.state != CHOSEN) {
            throw new IllegalStateException("it is not chosen");
        }
        if (waits && hasOpenMoves(sheet)) {
            return 0;
        }
        noteBooked(sheet);
        sheet.state = FROZEN;
        return sheet.members.length;
    }

    public int found(int count, int place, int good, int n, int person)
            throws NoSuchElementException, IllegalArgumentException {
        Sheet sheet = sheetNumbered(count);
        placeNumbered(place);
        if (!isGood(good) || !isPieces(n) || !isPerson(person)) {
            throw new IllegalArgumentException("no such good, number of pieces or person");
        }
        if (sheet.state != FROZEN) {
            return -1;
        }
        int position = sheet.positionOf(place);
        if (position == NONE) {
            return -2;
        }
        return sheet.tell(position * GOODS + good, n, person);
    }

    public boolean second(int count, int place, int good)
            throws NoSuchElementException, IllegalArgumentException, IllegalStateException {
        Sheet sheet = sheetNumbered(count);
        Place at = placeNumbered(place);
        int position = sheet.positionOf(place);
        if (position == NONE) {
            throw new NoSuchElementException("the place is not in the count");
        }
        if (!isGood(good)) {
            throw new IllegalArgumentException("no such good");
        }
        if (sheet.state != FROZEN) {
            throw new IllegalStateException("it is not frozen");
        }
        int line = position * GOODS + good;
        return sheet.isToldOnce(line) && !isTolerated(sheet.differenceOf(line), at);
    }

    public int close(int count) throws NoSuchElementException, IllegalStateException {
        Sheet sheet = sheetNumbered(count);
        if (sheet.state != FROZEN) {
            throw new IllegalStateException("it is not frozen");
        }
        for (int position = 0; position < sheet.members.length; position++) {
            Place at = placeNumbered(sheet.members[position]);
            at.taken = false;
            if (sheet.isPlaceTold(position)) {
                countPlace(sheet, position, at);
            }
        }
        sheet.state = ENDED;
        return sheet.differences;
    }

    public int differ(int count, int i, int what) throws NoSuchElementException, IllegalArgumentException {
        Sheet sheet = sheetNumbered(count);
        int line = lineOfDifference(sheet, i);
        switch (what) {
            case 0:
                return sheet.members[line / GOODS];
            case 1:
                return line % GOODS;
            case 2:
                return sheet.differenceOf(line);
            case 3:
                return sheet.finderOf(line);
            case 4:
                return sheet.corrected[line] ? 1 : 0;
            case 5:
                return sheet.askers[line];
            default:
                throw new IllegalArgumentException("no such what");
        }
    }

    public boolean correct(int count, int i, int person)
            throws NoSuchElementException, IllegalArgumentException, IllegalStateException {
        Sheet sheet = sheetNumbered(count);
        int line = lineOfDifference(sheet, i);
        if (!isPerson(person)) {
            throw new IllegalArgumentException("no such person");
        }
        if (sheet.corrected[line]) {
            throw new IllegalStateException("it is corrected");
        }
        if (!mayCorrect(sheet, line, person)) {
            sheet.askers[line] = person;
            return false;
        }
        Place at = placeNumbered(sheet.members[line / GOODS]);
        int after = at.pieces[line % GOODS] + sheet.differenceOf(line);
        if (!isPieces(after)) {
            throw new IllegalStateException("what is booked would leave its range");
        }
        at.pieces[line % GOODS] = after;
        sheet.corrected[line] = true;
        return true;
    }

    public int share(int side) throws IllegalArgumentException, ArithmeticException {
        if (!isWithin(side, 0, 1)) {
            throw new IllegalArgumentException("no such side");
        }
        // It is 0 exactly if no place was ever counted.
        int divisor = commonDivisor(timesCounted, timesRight);
        if (divisor == 0) {
            throw new ArithmeticException("no place was counted");
        }
        return (side == 0 ? timesRight : timesCounted) / divisor;
    }

    public int last(int place) throws NoSuchElementException {
        return placeNumbered(place).countedOn;
    }

    public int due(int day) throws IllegalArgumentException {
        if (!isDay(day)) {
            throw new IllegalArgumentException("no such day");
        }
        int many = 0;
        for (int number = 0; number < placesMade; number++) {
            Place at = placeNumbered(number);
            if (at.countedOn == NEVER || day - at.countedOn >= cycles[at.kind]) {
                many++;
            }
        }
        return many;
    }

    public int booked(int place, int good) throws NoSuchElementException, IllegalArgumentException {
        Place at = placeNumbered(place);
        if (!isGood(good)) {
            throw new IllegalArgumentException("no such good");
        }
        return at.pieces[good];
    }

    public int told(int count, int what) throws NoSuchElementException, IllegalArgumentException {
        Sheet sheet = sheetNumbered(count);
        if (what >= FIRST_PLACE_TOLD) {
            int position = what - FIRST_PLACE_TOLD;
            return position < sheet.members.length ? sheet.members[position] : NONE;
        }
        switch (what) {
            case 0:
                return sheet.state;
            case 1:
                return sheet.members.length;
            case 2:
                return sheet.findings;
            default:
                throw new IllegalArgumentException("no such what");
        }
    }

    public int count(int what) {
        switch (what) {
            case 0:
                return placesMade;
            case 1:
                return transfersMade;
            case 2:
                return sheetsMade;
            case 3:
                return today;
            case 4:
                return openMoves();
            default:
                return -1;
        }
    }

    private static boolean isWithin(int n, int least, int most) {
        return n >= least && n <= most;
    }

    private static boolean isKind(int kind) {
        return isWithin(kind, 0, KINDS - 1);
    }

    private static boolean isGood(int good) {
        return isWithin(good, 0, GOODS - 1);
    }

    private static boolean isPerson(int person) {
        return isWithin(person, 0, PERSONS - 1);
    }

    private static boolean isPieces(int n) {
        return isWithin(n, 0, MOST_PIECES);
    }

    private static boolean isDay(int day) {
        return isWithin(day, 0, LATEST_DAY);
    }

    private Place placeNumbered(int number) {
        Place at = isWithin(number, 0, placesMade - 1) ? places[number] : null;
        if (at == null) {
            throw new NoSuchElementException("no such place");
        }
        return at;
    }

    private Transfer transferNumbered(int number) {
        Transfer transfer = isWithin(number, 1, transfersMade) ? transfers[number - 1] : null;
        if (transfer == null) {
            throw new NoSuchElementException("no such move");
        }
        return transfer;
    }

    private Sheet sheetNumbered(int number) {
        Sheet sheet = isWithin(number, 1, sheetsMade) ? sheets[number - 1] : null;
        if (sheet == null) {
            throw new NoSuchElementException("no such count");
        }
        return sheet;
    }

    /** A count that is not ended has no differences yet. */
    private static int lineOfDifference(Sheet sheet, int i) {
        int line = sheet.differingLine(i);
        if (line == NONE) {
            throw new NoSuchElementException("no such difference");
        }
        return line;
    }

    private int openMoves() {
        int many = 0;
        for (int number = 1; number <= transfersMade; number++) {
            if (transferNumbered(number).open) {
                many++;
            }
        }
        return many;
    }

    private int openMovesAt(int place) {
        int many = 0;
        for (int number = 1; number <= transfersMade; number++) {
            Transfer transfer = transferNumbered(number);
            if (transfer.open && (transfer.from == place || transfer.to == place)) {
                many++;
            }
        }
        return many;
    }

    private boolean hasOpenMoves(Sheet sheet) {
        for (int position = 0; position < sheet.members.length; position++) {
            if (openMovesAt(sheet.members[position]) > 0) {
                return true;
            }
        }
        return false;
    }

    private int gatherCandidates(int kind) {
        int free = 0;
        for (int number = 0; number < placesMade; number++) {
            Place at = placeNumbered(number);
            if (!at.taken && (kind == ALL_KINDS || at.kind == kind)) {
                candidates[free] = number;
                free++;
            }
        }
        return free;
    }

    private int[] chooseCandidates(int free, int many, long seed) {
        int[] chosen = new int[many];
        int left = free;
        long x = seed;
        for (int i = 0; i < many && left > 0; i++) {
            int at;
            if (seed == 0L) {
                at = longestUncounted(left);
            } else {
                x = x * SEED_FACTOR + SEED_STEP;
                at = (int) ((x >>> SEED_SHIFT) % left);
            }
            chosen[i] = candidates[at];
            placeNumbered(chosen[i]).taken = true;
            left--;
            System.arraycopy(candidates, at + 1, candidates, at, left - at);
        }
        return chosen;
    }

    private int longestUncounted(int left) {
        int best = 0;
        for (int i = 1; i < left; i++) {
            // NEVER lies below every day, and of those alike the lower number stands first.
            if (placeNumbered(candidates[i]).countedOn < placeNumbered(candidates[best]).countedOn) {
                best = i;
            }
        }
        return best;
    }

    /** Adds what open moves will bring; for a count that waits there are none left, so it fits both settings. */
    private void noteBooked(Sheet sheet) {
        for (int position = 0; position < sheet.members.length; position++) {
            Place at = placeNumbered(sheet.members[position]);
            System.arraycopy(at.pieces, 0, sheet.noted, position * GOODS, GOODS);
        }
        for (int number = 1; number <= transfersMade; number++) {
            Transfer transfer = transferNumbered(number);
            int position = sheet.positionOf(transfer.to);
            if (transfer.open && position != NONE) {
                sheet.noted[position * GOODS + transfer.good] += transfer.pieces;
            }
        }
    }

    private void countPlace(Sheet sheet, int position, Place at) {
        boolean tolerated = true;
        for (int good = 0; good < GOODS; good++) {
            int line = position * GOODS + good;
            int difference = sheet.differenceOf(line);
            if (difference != 0) {
                sheet.addDifference(line);
            }
            tolerated = tolerated && isTolerated(difference, at);
        }
        at.countedOn = today;
        timesCounted++;
        if (tolerated) {
            timesRight++;
        }
    }

    private boolean isTolerated(int difference, Place at) {
        return Math.abs(difference) <= tolerances[at.kind];
    }

    private boolean mayCorrect(Sheet sheet, int line, int person) {
        int asker = sheet.askers[line];
        boolean alone = rights[person] >= Math.abs(sheet.differenceOf(line));
        boolean asTheOther = asker != NOBODY && asker != person;
        return alone || asTheOther;
    }

    private static int commonDivisor(int a, int b) {
        int larger = a;
        int smaller = b;
        for (int step = 0; step < MOST_DIVISIONS && smaller != 0; step++) {
            int rest = larger % smaller;
            larger = smaller;
            smaller = rest;
        }
        return larger;
    }

    private static final class Place {
        private final int kind;
        private final int[] pieces = new int[GOODS];
        private int countedOn = NEVER;
        // In a count that is not ended.
        private boolean taken;

        private Place(int kind) {
            this.kind = kind;
        }
    }

    private static final class Transfer {
        private final int from;
        private final int to;
        private final int good;
        private final int pieces;
        private boolean open = true;

        private Transfer(int from, int to, int good, int pieces) {
            this.from = from;
            this.to = to;
            this.good = good;
            this.pieces = pieces;
        }
    }

    /** A count. Its lines are its places' goods: the line of a good is the place's position * GOODS + good. */
    private static final class Sheet {
        private final int[] members;
        private final int[] noted;
        // What counts: the latest finding, and 0 for what nobody told.
        private final int[] pieces;
        private final int[] firstFinders;
        private final int[] secondFinders;
        private final int[] askers;
        private final boolean[] corrected;
        private final int[] differing;
        private int differences;
        private int findings;
        private int state = CHOSEN;

        private Sheet(int[] members) {
            int lines = members.length * GOODS;
            this.members = members;
            noted = new int[lines];
            pieces = new int[lines];
            firstFinders = new int[lines];
            secondFinders = new int[lines];
            askers = new int[lines];
            corrected = new boolean[lines];
            differing = new int[lines];
            Arrays.fill(firstFinders, NOBODY);
            Arrays.fill(secondFinders, NOBODY);
            Arrays.fill(askers, NOBODY);
        }

        private int positionOf(int place) {
            for (int position = 0; position < members.length; position++) {
                if (members[position] == place) {
                    return position;
                }
            }
            return NONE;
        }

        private int tell(int line, int n, int person) {
            if (firstFinders[line] == person || secondFinders[line] == person) {
                return -3;
            }
            if (secondFinders[line] != NOBODY) {
                return -4;
            }
            if (firstFinders[line] == NOBODY) {
                firstFinders[line] = person;
            } else {
                secondFinders[line] = person;
            }
            pieces[line] = n;
            findings++;
            return 1;
        }

        private boolean isToldOnce(int line) {
            return firstFinders[line] != NOBODY && secondFinders[line] == NOBODY;
        }

        private boolean isPlaceTold(int position) {
            for (int good = 0; good < GOODS; good++) {
                if (firstFinders[position * GOODS + good] != NOBODY) {
                    return true;
                }
            }
            return false;
        }

        private int finderOf(int line) {
            return secondFinders[line] != NOBODY ? secondFinders[line] : firstFinders[line];
        }

        private int differenceOf(int line) {
            return pieces[line] - noted[line];
        }

        private void addDifference(int line) {
            if (differences < differing.length) {
                differing[differences] = line;
                differences++;
            }
        }

        private int differingLine(int i) {
            return i >= 0 && i < differences ? differing[i] : NONE;
        }
    }
}
