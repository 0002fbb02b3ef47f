/** All rows in the order of their numbers, each looked at as the document tells it. */
final class Rows {
    private final int hungAtFirst;
    private final int men;
    private final int[][] steps = new int[12][];
    private int count;
    int least = -9;
    int[] best;

    Rows(int hung, int men) {
        this.hungAtFirst = hung;
        this.men = men;
    }

    void tell(int kind, int place, int days, int hands, int after) {
        steps[count++] = new int[] {kind, place, days, hands, after};
    }

    void tryAll() {
        extend(new int[count], 0, 0);
    }

    private void extend(int[] row, int length, int used) {
        if (length == count) {
            if (mayBe(row)) {
                int days = days(row);
                if (least < 0 || days < least) {
                    least = days;
                    best = row.clone();
                }
            }
            return;
        }
        for (int s = 0; s < count; s++) {
            if ((used & 1 << s) == 0) {
                row[length] = s;
                extend(row, length + 1, used | 1 << s);
            }
        }
    }

    private boolean mayBe(int[] row) {
        boolean[] hangs = new boolean[6];
        for (int i = 0; i < 6; i++) {
            hangs[i] = (hungAtFirst & 1 << i) != 0;
        }
        int before = 0;
        int led = 0;
        for (int k = 0; k < count; k++) {
            int[] step = steps[row[k]];
            int place = step[1];
            if ((step[4] & ~before) != 0 || step[3] > men || hangs[place] == (step[0] == 0)) {
                return false;
            }
            before |= 1 << row[k];
            if (step[0] < 2) {
                hangs[place] = step[0] == 0;
            }
            int floor = 0;
            int others = 0;
            for (int i = 0; i < 4; i++) {
                floor += hangs[i] ? 1 : 0;
                others += hangs[i] && i != place ? 1 : 0;
            }
            led += step[0] == 0 ? 1 : 0;
            boolean menStand = step[0] == 2 || step[0] == 0 && led > 2;
            if (menStand && others < 2 || step[0] == 1 && floor < 2 && menStandBehind(row, k)) {
                return false;
            }
        }
        return true;
    }

    private boolean menStandBehind(int[] row, int k) {
        for (int i = k + 1; i < count; i++) {
            if (steps[row[i]][0] != 1) {
                return true;
            }
        }
        return false;
    }

    private int days(int[] row) {
        int[] till = new int[count + 1];
        for (int end = 1; end <= count; end++) {
            till[end] = Integer.MAX_VALUE;
            for (int from = 0; from < end; from++) {
                if (from == end - 1 || isGroup(row, from, end)) {
                    int longest = 0;
                    for (int i = from; i < end; i++) {
                        longest = Math.max(longest, steps[row[i]][2]);
                    }
                    till[end] = Math.min(till[end], till[from] + longest);
                }
            }
        }
        return till[count];
    }

    private boolean isGroup(int[] row, int from, int end) {
        int hands = 0;
        for (int i = from; i < end; i++) {
            int[] step = steps[row[i]];
            hands += step[3];
            for (int j = from; j < end; j++) {
                if ((step[4] & 1 << row[j]) != 0) {
                    return false;
                }
            }
            if (step[0] != 2) {
                return false;
            }
        }
        return hands <= men;
    }
}
