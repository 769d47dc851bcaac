/** Beginnings that several tests share. */
final class Scenes {
    private Scenes() {
    }

    static CountRounds withPlaces(int... kinds) {
        CountRounds x = new CountRounds();
        for (int kind : kinds) {
            x.place(kind);
        }
        return x;
    }

    /** Places of class 0 that are all in count 1, by number; it is not yet frozen. */
    static CountRounds chosen(int places) {
        CountRounds x = withPlaces(new int[places]);
        x.round(0, places, 0);
        return x;
    }

    static CountRounds frozen(int places) {
        CountRounds x = chosen(places);
        x.freeze(1);
        return x;
    }

    /** Place 0 has one difference in the ended count 1: of good 0, told by person 0; booked is what was noted. */
    static CountRounds differing(int noted, int told) {
        CountRounds x = withPlaces(0);
        x.stock(0, 0, noted);
        x.round(0, 1, 0);
        x.freeze(1);
        x.found(1, 0, 0, told, 0);
        x.close(1);
        return x;
    }

    /** A count of one free place, told as n of good 0, from choosing to ending: its number. */
    static int countOne(CountRounds x, int kind, int n) {
        int count = x.round(kind, 1, 0);
        x.freeze(count);
        x.found(count, x.told(count, 10), 0, n, 0);
        x.close(count);
        return count;
    }
}
