/** Objects in the states from which the tests go on. */
final class Scenes {
    private Scenes() {
    }

    /** In port: lockers 0 and 1, good 0 (duty 100), good 1 (duty 7), nothing loaded, seals 1 and 2 used. */
    static SealedStores empty() {
        SealedStores x = new SealedStores();
        x.locker();
        x.locker();
        x.good(100);
        x.good(7);
        return x;
    }

    /** As empty, with 10 and 20 of good 0 in the lockers 0 and 1, and 30 of good 1 in locker 0: bonds 0, 1, 2. */
    static SealedStores loaded() {
        SealedStores x = empty();
        x.load(0, 0, 10);
        x.load(1, 0, 20);
        x.load(0, 1, 30);
        return x;
    }

    static SealedStores loadedAtSea() {
        SealedStores x = loaded();
        toSea(x);
        return x;
    }

    static void toSea(SealedStores x) {
        x.cross(1);
        x.cross(0);
    }

    static void toPort(SealedStores x) {
        x.cross(1);
        x.cross(2);
    }

    static void type(SealedStores x, String text) {
        x.clearText();
        for (int i = 0; i < text.length(); i++) {
            x.type(text.charAt(i));
        }
    }

    /** In port with as many seals left as told; one locker, empty, of one good (duty 1). */
    static SealedStores withSealsLeft(int left) {
        SealedStores x = new SealedStores();
        x.locker();
        x.good(1);
        while (x.count(4) < 200 - left) {
            x.inspect(0);
        }
        return x;
    }

    /** In port, locker 0 with goods 0, 1, 2 of duties 1000000, 1000, 1 that make 2147483647 cents together. */
    static SealedStores atMostCents() {
        SealedStores x = new SealedStores();
        x.locker();
        x.good(1000000);
        x.good(1000);
        x.good(1);
        x.load(0, 0, 2147);
        x.load(0, 1, 483);
        x.load(0, 2, 647);
        return x;
    }
}
