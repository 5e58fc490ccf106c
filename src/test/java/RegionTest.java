/** Promise 15: region. */
public final class RegionTest {
    public static void main(String[] args) {
        Due due = new Due();
        AbendRows x = new AbendRows();
        int[][] codeAndRegion = {
            {1, 1}, {500, 1}, {999, 1}, {1000, 2}, {3999, 2}, {4000, 3}, {9999, 3},
            {0, -4}, {-1, -4}, {10000, -4}, {Integer.MIN_VALUE, -4}, {Integer.MAX_VALUE, -4},
        };
        for (int[] pair : codeAndRegion) {
            due.is("region(" + pair[0] + ")", x.region(pair[0]), pair[1]);
        }
        due.end();
    }
}
