/** All that the questions about 1 and 2 (and THE TEXT, SEEN, what can be undone) answer, as one text. */
final class Snapshot {
    private Snapshot() { }

    /** All that 1 and 2 tell but THE TEXT. */
    static String of(TransferRings x) {
        StringBuilder all = new StringBuilder();
        for (int address = 0; address < 64; address++) {
            all.append(x.at(address)).append(' ');
        }
        for (int c = 0; c < 4; c++) {
            all.append("\nchannel");
            for (int what = 0; what < 9; what++) {
                all.append(' ').append(x.channel(c, what));
            }
            for (int slot = 0; slot < 6; slot++) {
                all.append("\n slot");
                for (int what = 0; what < 6; what++) {
                    all.append(' ').append(x.slot(c, slot, what));
                }
                all.append(" units");
                for (int k = 0; k <= 64; k += 3) {
                    all.append(' ').append(x.unit(c, slot, k, 0)).append('>').append(x.unit(c, slot, k, 1));
                }
            }
        }
        all.append("\nwaiting");
        for (int i = 0; i < 6; i++) {
            all.append(' ').append(x.waiting(i));
        }
        all.append("\ncounts ").append(x.count(0)).append(' ').append(x.count(1));
        all.append(' ').append(x.count(2)).append(' ').append(x.count(6));
        return all.toString();
    }

    /** That, and how much of all else there is. */
    static String whole(TransferRings x) {
        return of(x) + "\nelse " + x.count(3) + " " + x.count(4) + " " + x.count(5);
    }
}
