/**
 * A TransferRings of which no more is asked than the document promises: "An object is used for at
 * most 512 calls". A test that asks more would hold what is free, so it fails here.
 */
final class Rings {
    static final int MOST_CALLS = 512;

    private final TransferRings x = new TransferRings();
    private int calls = 0;

    int callsLeft() {
        return MOST_CALLS - calls;
    }

    private TransferRings next() {
        if (calls == MOST_CALLS) {
            throw new IllegalStateException("the test's own fault: more than 512 calls on one object");
        }
        calls++;
        return x;
    }

    int type(int letter) {
        return next().type(letter);
    }

    int clear() {
        return next().clear();
    }

    int posts() {
        return next().posts();
    }

    int ticks(int n) {
        return next().ticks(n);
    }

    int cancels(int channel) {
        return next().cancels(channel);
    }

    int switches(int channel) {
        return next().switches(channel);
    }

    int tunes(int channel, int rank, int burst) {
        return next().tunes(channel, rank, burst);
    }

    int undo() {
        return next().undo();
    }

    int at(int address) {
        return next().at(address);
    }

    int channel(int channel, int what) {
        return next().channel(channel, what);
    }

    int slot(int channel, int slot, int what) {
        return next().slot(channel, slot, what);
    }

    int unit(int channel, int slot, int k, int way) {
        return next().unit(channel, slot, k, way);
    }

    int waiting(int i) {
        return next().waiting(i);
    }

    int both(int channel, int slot, int other, int otherSlot) {
        return next().both(channel, slot, other, otherSlot);
    }

    int over(int channel) {
        return next().over(channel);
    }

    int lands(int address) {
        return next().lands(address);
    }

    int enough(int channel, int n) {
        return next().enough(channel, n);
    }

    int granted(int k) {
        return next().granted(k);
    }

    int sees(int k, int channel) {
        return next().sees(k, channel);
    }

    int forget() {
        return next().forget();
    }

    int ranks(int channel) {
        return next().ranks(channel);
    }

    int keep(int image) {
        return next().keep(image);
    }

    int back(int image) {
        return next().back(image);
    }

    int count(int what) {
        return next().count(what);
    }
}
