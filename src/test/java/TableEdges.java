/** The boundaries of THE TABLE: the terms, promises 5 (table) to 10 (isNear). */
final class TableEdges {
    private static final int LEAST = Integer.MIN_VALUE;
    private static final int MOST = Integer.MAX_VALUE;

    private final Check check;

    TableEdges(Check check) {
        this.check = check;
    }

    private static PrivateCounts tableOf(int a, int b, int low, int high) {
        PrivateCounts x = new PrivateCounts();
        x.table(a, b, low, high);
        return x;
    }

    private void takes(int a, int b, int low, int high) {
        PrivateCounts x = new PrivateCounts();
        String of = "table(" + a + ", " + b + ", " + low + ", " + high + ")";
        check.due(of + ": D", x.table(a, b, low, high), x.all());
        check.due(of + ": low", x.told(4), low);
        check.due(of + ": high", x.told(5), high);
        check.due(of + ": a", x.told(6), a);
        check.due(of + ": b", x.told(7), b);
    }

    private void refuses(int a, int b, int low, int high) {
        PrivateCounts x = new PrivateCounts();
        check.throwsIllegalArgument("table(" + a + ", " + b + ", " + low + ", " + high + ")",
            () -> x.table(a, b, low, high));
    }

    void aAndBAreOneToTen() {
        for (int a = -1; a <= 12; a++) {
            for (int b = -1; b <= 12; b++) {
                if (a >= 1 && a < b && b <= 10) {
                    takes(a, b, 0, 1);
                } else {
                    refuses(a, b, 0, 1);
                }
            }
        }
        for (int far : new int[] {LEAST, LEAST + 1, LEAST + 10, MOST, MOST - 1}) {
            refuses(far, 10, 0, 1);
            refuses(1, far, 0, 1);
            refuses(far, far, 0, 1);
        }
        refuses(LEAST, MOST, 0, 1);
        refuses(MOST, LEAST, 0, 1);
    }

    void lowIsNotAboveHigh() {
        takes(1, 2, 0, 0);
        takes(1, 2, 0, 1);
        refuses(1, 2, 1, 0);
        takes(1, 2, -7, -7);
        refuses(1, 2, -7, -8);
        refuses(1, 2, 1000, -1000);
        refuses(1, 2, 1000, 999);
        refuses(1, 2, MOST, LEAST);
    }

    void theRangeIsWithinAThousand() {
        takes(1, 2, -1000, -1000);
        takes(1, 2, -1000, -986);
        takes(1, 2, 1000, 1000);
        takes(1, 2, 986, 1000);
        refuses(1, 2, -1001, -1001);
        refuses(1, 2, -1001, -1000);
        refuses(1, 2, -1001, -990);
        refuses(1, 2, 1001, 1001);
        refuses(1, 2, 1000, 1001);
        refuses(1, 2, 990, 1001);
        refuses(1, 2, LEAST, LEAST);
        refuses(1, 2, LEAST, LEAST + 14);
        refuses(1, 2, MOST, MOST);
        refuses(1, 2, MOST - 14, MOST);
    }

    // high - low of the last ones wraps around to a number that is at most 14.
    void theRangeIsAtMostFourteenWide() {
        takes(1, 2, 0, 14);
        refuses(1, 2, 0, 15);
        takes(1, 2, -7, 7);
        refuses(1, 2, -7, 8);
        refuses(1, 2, -8, 7);
        takes(1, 2, -14, 0);
        refuses(1, 2, -15, 0);
        refuses(1, 2, -1000, 1000);
        refuses(1, 2, LEAST, MOST);
        refuses(1, 2, LEAST, 0);
        refuses(1, 2, -1000, MOST);
        refuses(1, 2, LEAST, 1000);
        refuses(1, 2, -2000000000, 2000000000);
        refuses(1, 2, MOST, LEAST + 5);
    }

    // D of the first ones is a + b; that of the last ones is more than an int holds.
    void dIsTheSumTimesAPower() {
        check.due("1, 2, width 0", tableOf(1, 2, 5, 5).all(), 3);
        check.due("9, 10, width 0", tableOf(9, 10, -1000, -1000).all(), 19);
        check.due("1, 2, width 1", tableOf(1, 2, 5, 6).all(), 6);
        check.due("1, 2, width 14", tableOf(1, 2, 0, 14).all(), 49152);
        check.due("4, 7, width 10", tableOf(4, 7, -5, 5).all(), 3107227739L);
        check.due("1, 10, width 9", tableOf(1, 10, 1, 10).all(), 11000000000L);
        check.due("9, 10, width 14", tableOf(9, 10, 0, 14).all(), 1900000000000000L);
    }

    // 9 and 10 in the widest range: the greatest numbers there are.
    void weightBetweenTheEnds() {
        PrivateCounts x = tableOf(9, 10, 0, 14);
        check.due("weight(7, 7)", x.weight(7, 7), 100000000000000L);
        check.due("weight(0, 1)", x.weight(0, 1), 90000000000000L);
        check.due("weight(1, 1)", x.weight(1, 1), 100000000000000L);
        check.due("weight(0, 13)", x.weight(0, 13), 25418658283290L);
        check.due("weight(14, 1)", x.weight(14, 1), 25418658283290L);
        PrivateCounts three = tableOf(3, 10, -1, 1);
        check.due("weight(0, 0)", three.weight(0, 0), 7 * 100);
        check.due("weight(-1, 0)", three.weight(-1, 0), 7 * 10 * 3);
        check.due("weight(1, 0)", three.weight(1, 0), 7 * 10 * 3);
    }

    void weightAtTheEnds() {
        PrivateCounts x = tableOf(9, 10, 0, 14);
        check.due("weight(0, 0)", x.weight(0, 0), 1000000000000000L);
        check.due("weight(14, 14)", x.weight(14, 14), 1000000000000000L);
        check.due("weight(0, 14)", x.weight(0, 14), 228767924549610L);
        check.due("weight(14, 0)", x.weight(14, 0), 228767924549610L);
        check.due("weight(7, 0)", x.weight(7, 0), 478296900000000L);
        check.due("weight(7, 14)", x.weight(7, 14), 478296900000000L);
        PrivateCounts two = tableOf(1, 2, 5, 6);
        check.due("weight(5, 5)", two.weight(5, 5), 4);
        check.due("weight(5, 6)", two.weight(5, 6), 2);
        check.due("weight(6, 5)", two.weight(6, 5), 2);
        check.due("weight(6, 6)", two.weight(6, 6), 4);
    }

    void weightWhenLowIsHigh() {
        for (int only : new int[] {-1000, -1, 0, 1, 1000}) {
            check.due("1, 2: weight of " + only, tableOf(1, 2, only, only).weight(only, only), 3);
            check.due("9, 10: weight of " + only, tableOf(9, 10, only, only).weight(only, only), 19);
        }
    }

    void allWeightsAreDTogether() {
        for (int width = 0; width <= 14; width++) {
            for (int a = 1; a <= 9; a++) {
                PrivateCounts x = tableOf(a, 10, -width, 0);
                for (int row = -width; row <= 0; row++) {
                    long sum = 0;
                    for (int z = -width; z <= 0; z++) {
                        sum += x.weight(row, z);
                    }
                    check.due("a " + a + ", width " + width + ": all of " + row, sum, x.all());
                }
            }
        }
    }

    void aCoinIsBelowD() {
        int[][] tables = {{1, 2, 0, 10}, {1, 2, 3, 3}, {9, 10, -1000, -986}, {4, 7, -5, 5}};
        for (int[] t : tables) {
            PrivateCounts x = tableOf(t[0], t[1], t[2], t[3]);
            long total = x.all();
            check.due("the first coin", x.draw(t[2], 0), t[2]);
            check.due("the last coin", x.draw(t[2], total - 1), t[3]);
            for (long coin : new long[] {-1, total, total + 1, Long.MIN_VALUE, Long.MAX_VALUE}) {
                check.throwsIllegalArgument("draw with the coin " + coin, () -> x.draw(t[2], coin));
            }
        }
        // As ints these would be coins.
        PrivateCounts small = new PrivateCounts();
        check.throwsIllegalArgument("draw with the coin 2^32", () -> small.draw(0, 1L << 32));
        check.throwsIllegalArgument("draw with the coin 5 - 2^32", () -> small.draw(0, 5 - (1L << 32)));
    }

    // 1 and 2, range 0 .. 2: the weights of 0 are 8, 2, 2; those of 1 are 4, 4, 4; of 2 2, 2, 8.
    void theLeastOutcomeAboveTheCoin() {
        PrivateCounts x = tableOf(1, 2, 0, 2);
        String[] due = {"000000001122", "000011112222", "001122222222"};
        for (int row = 0; row <= 2; row++) {
            for (int coin = 0; coin < 12; coin++) {
                check.due("draw(" + row + ", " + coin + ")", x.draw(row, coin), due[row].charAt(coin) - '0');
            }
        }
        PrivateCounts wide = tableOf(9, 10, 0, 14);
        check.due("the last coin of 0", wide.draw(0, 999999999999999L), 0);
        check.due("the first coin of 1", wide.draw(0, 1000000000000000L), 1);
        check.due("the last coin of 13", wide.draw(0, 1900000000000000L - 228767924549611L), 13);
        check.due("the first coin of 14", wide.draw(0, 1900000000000000L - 228767924549610L), 14);
        PrivateCounts one = tableOf(1, 2, -4, -4);
        for (int coin = 0; coin <= 2; coin++) {
            check.due("draw(-4, " + coin + ")", one.draw(-4, coin), -4);
        }
    }

    void theTableBecomesThisOne() {
        PrivateCounts x = new PrivateCounts();
        x.table(9, 10, -1000, -986);
        x.table(2, 3, 0, 2);
        check.due("weight(0, 0)", x.weight(0, 0), 27);
        check.due("weight(0, 1)", x.weight(0, 1), 6);
        check.due("weight(0, 2)", x.weight(0, 2), 12);
        check.due("weight(-1000, -1000)", x.weight(-1000, -1000), 0);
        check.due("least(1000) for 2 and 3", x.least(1000), 406);
        x.table(2, 3, 0, 2);
        check.due("the same once more", x.all(), 45);
    }

    void tableAnswersD() {
        PrivateCounts x = new PrivateCounts();
        check.due("table(9, 10, 986, 1000)", x.table(9, 10, 986, 1000), 1900000000000000L);
        check.due("table(1, 2, -1000, -1000)", x.table(1, 2, -1000, -1000), 3);
        check.due("table(4, 7, -5, 5)", x.table(4, 7, -5, 5), 3107227739L);
    }

    // One thing wrong each time, and all of them at once.
    void tableRefusesWhatIsNotAsTold() {
        refuses(0, 2, 0, 10);
        refuses(2, 2, 0, 10);
        refuses(3, 2, 0, 10);
        refuses(1, 11, 0, 10);
        refuses(1, 2, 10, 0);
        refuses(1, 2, -1001, -999);
        refuses(1, 2, 999, 1001);
        refuses(1, 2, 0, 15);
        refuses(11, 0, 1001, -1001);
    }

    void allAnswersD() {
        PrivateCounts x = new PrivateCounts();
        check.due("all() of a new object", x.all(), 3072);
        x.table(9, 10, 0, 14);
        check.due("all() of the greatest table", x.all(), 1900000000000000L);
        check.throwsIllegalArgument("a wrong table", () -> x.table(9, 10, 0, 15));
        check.due("all() behind it", x.all(), 1900000000000000L);
        x.table(1, 2, 0, 0);
        check.due("all() of the least table", x.all(), 3);
    }

    void weightOfAnOutcome() {
        PrivateCounts x = tableOf(1, 2, -1, 1);
        long[][] due = {{8, 2, 2}, {4, 4, 4}, {2, 2, 8}};
        for (int row = -1; row <= 1; row++) {
            for (int z = -1; z <= 1; z++) {
                check.due("weight(" + row + ", " + z + ")", x.weight(row, z), due[row + 1][z + 1]);
            }
        }
    }

    void weightIsZeroOutOfTheRange() {
        int[][] ranges = {{0, 10}, {-1000, -986}, {986, 1000}, {5, 5}};
        for (int[] range : ranges) {
            PrivateCounts x = tableOf(9, 10, range[0], range[1]);
            for (int out : new int[] {range[0] - 1, range[1] + 1, LEAST, LEAST + 1, MOST}) {
                for (int in : range) {
                    check.due("weight(" + out + ", " + in + ")", x.weight(out, in), 0);
                    check.due("weight(" + in + ", " + out + ")", x.weight(in, out), 0);
                }
                check.due("weight(" + out + ", " + out + ")", x.weight(out, out), 0);
            }
            check.due("weight of both beyond", x.weight(range[0] - 1, range[1] + 1), 0);
        }
    }

    void upToSumsFromLow() {
        PrivateCounts x = tableOf(2, 3, -1, 1);
        long[][] due = {{27, 33, 45}, {18, 27, 45}, {12, 18, 45}};
        for (int row = -1; row <= 1; row++) {
            for (int z = -1; z <= 1; z++) {
                check.due("upTo(" + row + ", " + z + ")", x.upTo(row, z), due[row + 1][z + 1]);
            }
        }
        PrivateCounts wide = tableOf(9, 10, 0, 14);
        check.due("upTo(0, 0)", wide.upTo(0, 0), 1000000000000000L);
        check.due("upTo(0, 13)", wide.upTo(0, 13), 1900000000000000L - 228767924549610L);
        check.due("upTo(0, 14)", wide.upTo(0, 14), 1900000000000000L);
    }

    // A z above the range, too: what is named first goes first.
    void upToIsZeroForANumberOutOfTheRange() {
        PrivateCounts x = tableOf(1, 3, -2, 2);
        for (int out : new int[] {-3, 3, LEAST, MOST}) {
            for (int z : new int[] {-3, -2, 0, 2, 3, LEAST, MOST}) {
                check.due("upTo(" + out + ", " + z + ")", x.upTo(out, z), 0);
            }
        }
    }

    void upToIsZeroBelowTheRange() {
        PrivateCounts x = tableOf(1, 3, -2, 2);
        for (int row = -2; row <= 2; row++) {
            for (int z : new int[] {-3, -4, -1000, LEAST}) {
                check.due("upTo(" + row + ", " + z + ")", x.upTo(row, z), 0);
            }
            check.due("upTo(" + row + ", -2)", x.upTo(row, -2), x.weight(row, -2));
        }
    }

    void upToIsDAboveTheRange() {
        PrivateCounts x = tableOf(1, 3, -2, 2);
        for (int row = -2; row <= 2; row++) {
            for (int z : new int[] {2, 3, 4, 1000, MOST}) {
                check.due("upTo(" + row + ", " + z + ")", x.upTo(row, z), 4 * 81);
            }
        }
        PrivateCounts last = tableOf(9, 10, 986, 1000);
        check.due("upTo(986, 1001)", last.upTo(986, 1001), 1900000000000000L);
        check.due("upTo(1000, MOST)", last.upTo(1000, MOST), 1900000000000000L);
    }

    void drawForBothEnds() {
        PrivateCounts x = tableOf(1, 10, -7, 7);
        check.due("draw(-7, 0)", x.draw(-7, 0), -7);
        check.due("draw(-7, D - 1)", x.draw(-7, x.all() - 1), 7);
        check.due("draw(7, 0)", x.draw(7, 0), -7);
        check.due("draw(7, D - 1)", x.draw(7, x.all() - 1), 7);
        check.due("draw(0, D / 2)", x.draw(0, x.all() / 2), 0);
    }

    void drawRefusesANumberOutOfTheRange() {
        PrivateCounts x = tableOf(1, 3, -2, 2);
        for (int out : new int[] {-3, 3, LEAST, MOST}) {
            for (long coin : new long[] {0, 323, -1, 324}) {
                check.throwsIllegalArgument("draw(" + out + ", " + coin + ")", () -> x.draw(out, coin));
            }
        }
    }

    void drawRefusesAnotherCoin() {
        PrivateCounts x = tableOf(1, 3, -2, 2);
        for (int row = -2; row <= 2; row++) {
            int in = row;
            for (long coin : new long[] {-1, 324, 325, Long.MIN_VALUE, Long.MAX_VALUE}) {
                check.throwsIllegalArgument("draw(" + in + ", " + coin + ")", () -> x.draw(in, coin));
            }
        }
    }

    // Next to one another some outcome's weight times a is just the other's times b: not more.
    void isNearNextToOneAnother() {
        for (int b = 2; b <= 10; b++) {
            for (int a = 1; a < b; a++) {
                PrivateCounts x = tableOf(a, b, 0, 2);
                String of = "a " + a + ", b " + b + ": ";
                check.due(of + "just as much", x.weight(0, 0) * a, x.weight(1, 0) * b);
                check.due(of + "isNear(0, 1)", x.isNear(0, 1), true);
                check.due(of + "isNear(1, 0)", x.isNear(1, 0), true);
                check.due(of + "isNear(1, 1)", x.isNear(1, 1), true);
                check.due(of + "isNear(0, 2)", x.isNear(0, 2), false);
                check.due(of + "isNear(2, 0)", x.isNear(2, 0), false);
            }
        }
        check.due("isNear of the only one", tableOf(1, 2, 9, 9).isNear(9, 9), true);
        PrivateCounts wide = tableOf(9, 10, 986, 1000);
        check.due("isNear(986, 987)", wide.isNear(986, 987), true);
        check.due("isNear(1000, 999)", wide.isNear(1000, 999), true);
        check.due("isNear(986, 988)", wide.isNear(986, 988), false);
        check.due("isNear(986, 1000)", wide.isNear(986, 1000), false);
    }

    void isNearRefusesOneOutOfTheRange() {
        PrivateCounts x = tableOf(1, 3, -2, 2);
        for (int out : new int[] {-3, 3, LEAST, MOST}) {
            for (int in = -2; in <= 2; in++) {
                int row = in;
                check.throwsIllegalArgument("isNear(" + out + ", " + row + ")", () -> x.isNear(out, row));
                check.throwsIllegalArgument("isNear(" + row + ", " + out + ")", () -> x.isNear(row, out));
            }
            check.throwsIllegalArgument("isNear of both", () -> x.isNear(out, out));
        }
        check.throwsIllegalArgument("isNear(-3, 3)", () -> x.isNear(-3, 3));
    }
}
