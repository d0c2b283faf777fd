/** Promises 9, 12, 13 and 15: snap, advice, search, part. */
public final class GuideTest {
    public static void main(String[] args) {
        snapRefusals();
        snapDistance();
        snapWholeSquares();
        snapFarPlaces();
        snapOctants();
        adviceKinds();
        adviceAnswers();
        search();
        parts();
        Check.end();
    }

    private static void snapRefusals() {
        RouteGuide g = Maps.oneStreet(0, 0, 10, 0);
        long[][] wrong = {{-20001, 0}, {20001, 0}, {0, -20001}, {0, 20001}, {1L << 32, 0}, {0, Long.MIN_VALUE}};
        for (long[] w : wrong) {
            Check.due("snap outside", g.snap(w[0], w[1], -1), -2);
        }
        Check.due("heading -2", g.snap(0, 0, -2), -2);
        Check.due("heading 8", g.snap(0, 0, 8), -2);
        Check.due("heading", g.snap(0, 0, Integer.MIN_VALUE), -2);
        Check.due("corner", g.snap(-20000, 20000, -1), 0);
        Check.due("corner", g.snap(20000, -20000, 7), 0);
    }

    private static void snapDistance() {
        RouteGuide g = Maps.oneStreet(0, 0, 100, 0);
        Check.due("beside", g.snap(50, 50, -1), 1);
        Check.due("too far beside", g.snap(50, 51, -1), 0);
        Check.due("behind the beginning", g.snap(-30, 40, -1), 1);
        Check.due("too far behind the beginning", g.snap(-31, 40, -1), 0);
        Check.due("behind the end", g.snap(130, -40, -1), 1);
        Check.due("too far behind the end", g.snap(131, -40, -1), 0);
        g.node(0, 20);
        g.node(100, 20);
        g.street(4, 3, 1, 1, 0);
        Check.due("as near", g.snap(50, 10, -1), 1);
        Check.due("nearer to the second", g.snap(50, 11, -1), 2);
        Check.due("nearer, but not of the heading", g.snap(50, 11, 0), 1);
    }

    /** The square is taken whole before squares are compared, and before the limit. */
    private static void snapWholeSquares() {
        RouteGuide g = new RouteGuide();
        g.node(0, 0);
        g.node(3, 1);
        g.node(0, 1);
        g.node(1, 1);
        g.street(1, 2, 1, 1, 0);
        g.street(3, 4, 1, 1, 0);
        Check.due("0 and 4/10: both are 0", g.snap(1, 1, -1), 1);
        for (long x = 420; x <= 480; x++) {
            RouteGuide h = Maps.oneStreet(0, 0, 1000, 999);
            for (long y = 520; y <= 550; y++) {
                long want = wholeSquare(x, y, 1000, 999) <= 2500 ? 1 : 0;
                Check.due("snap(" + x + ", " + y + ")", h.snap(x, y, -1), want);
            }
        }
        RouteGuide m = Maps.oneStreet(-10000, 0, 10000, 200);
        Check.due("the square is 2499.75", m.snap(0, 150, -1), 1);
        Check.due("the square is 2500.75", m.snap(-1, 150, -1), 1);
        Check.due("the square is 2501.75", m.snap(-2, 150, -1), 0);
    }

    /** In places whose foot lies inside the piece. */
    private static long wholeSquare(long px, long py, long vx, long vy) {
        long cross = px * vy - py * vx;
        return cross * cross / (vx * vx + vy * vy);
    }

    private static void snapFarPlaces() {
        RouteGuide g = Maps.oneStreet(-10000, -10000, 10000, 10000);
        Check.due("far place", g.snap(20000, -20000, -1), 0);
        Check.due("far place", g.snap(-20000, 20000, -1), 0);
        Check.due("far place", g.snap(-20000, -20000, -1), 0);
        Check.due("on it", g.snap(-9999, -9999, -1), 1);
        Check.due("near its end", g.snap(10030, 10040, 1), 1);
        Check.due("not so near its end", g.snap(10030, 10041, 1), 0);
    }

    private static void snapOctants() {
        int[][] steps = {
            {10, 0, 0}, {10, 9, 0}, {10, 10, 1}, {9, 10, 1}, {1, 10, 1}, {0, 10, 2}, {-9, 10, 2},
            {-10, 10, 3}, {-10, 9, 3}, {-10, 1, 3}, {-10, 0, 4}, {-10, -9, 4}, {-10, -10, 5}, {-9, -10, 5},
            {-1, -10, 5}, {0, -10, 6}, {9, -10, 6}, {10, -10, 7}, {10, -9, 7}, {10, -1, 7}};
        for (int[] step : steps) {
            RouteGuide g = Maps.oneStreet(5, 5, 5 + step[0], 5 + step[1]);
            for (int heading = 0; heading < 8; heading++) {
                int apart = Math.floorMod(heading - step[2], 8);
                int want = apart == 0 || apart == 1 || apart == 7 ? 1 : 0;
                Check.due("step " + step[0] + "," + step[1] + " heading " + heading, g.snap(5, 5, heading), want);
            }
            Check.due("step, any heading", g.snap(5, 5, -1), 1);
        }
        RouteGuide none = Maps.oneStreet(5, 5, 5, 5);
        for (int heading = 0; heading < 8; heading++) {
            Check.due("a step of nothing, heading " + heading, none.snap(5, 5, heading), 0);
        }
        Check.due("a step of nothing, any heading", none.snap(35, 45, -1), 1);
        Check.due("a step of nothing, too far", none.snap(36, 45, -1), 0);
    }

    private static void adviceKinds() {
        int[][] turns = {
            {10, 0, 10, 0, 0}, {10, 0, 10, 5, 0}, {10, 0, 10, 6, 2}, {10, 0, 10, -5, 0}, {10, 0, 10, -6, 1},
            {10, 0, 0, 10, 2}, {10, 0, 0, -10, 1}, {10, 0, -10, 0, 3}, {10, 0, -10, 5, 3}, {10, 0, -10, -5, 3},
            {10, 0, -10, 6, 2}, {10, 0, -10, -6, 1}, {0, 10, -10, 0, 2}, {0, 10, 10, 0, 1}, {0, -10, 10, 0, 2},
            {3, 4, 3, 4, 0}, {3, 4, -3, -4, 3}, {3, 4, -4, 3, 2}, {3, 4, 4, -3, 1},
            {0, 0, 10, 0, 0}, {10, 0, 0, 0, 0}, {0, 0, 0, 0, 0}};
        for (int[] t : turns) {
            RouteGuide g = new RouteGuide();
            g.node(7, -3);
            g.node(7 + t[0], -3 + t[1]);
            g.node(7 + t[0] + t[2], -3 + t[1] + t[3]);
            g.street(2, 3, 1, 1, 0);
            g.street(1, 2, 1, 1, 0);
            g.plan(1, 3, 0, 0);
            Check.due("advice of " + java.util.Arrays.toString(t), g.advice(0, 0), t[4]);
            Check.due("the street then", g.advice(0, 1), 1);
        }
        RouteGuide far = new RouteGuide();
        far.node(-10000, -10000);
        far.node(10000, 10000);
        far.node(10000, -10000);
        far.street(1, 2, 1, 1, 0);
        far.street(2, 3, 1, 1, 0);
        far.plan(1, 3, 0, 0);
        Check.due("long steps", far.advice(0, 0), 1);
    }

    private static void adviceAnswers() {
        RouteGuide g = new RouteGuide();
        for (int n = 0; n < 4; n++) {
            g.node(n * 10, n * n);
        }
        g.street(1, 2, 1, 1, 0);
        g.street(2, 3, 1, 1, 0);
        g.street(3, 4, 1, 1, 0);
        g.plan(1, 4, 0, 0);
        Check.due("unknown goes before outside", g.advice(2, 3), -1);
        Check.due("i below 0", g.advice(-1, 0), -1);
        Check.due("i least", g.advice(Integer.MIN_VALUE, 0), -1);
        Check.due("i greatest", g.advice(Integer.MAX_VALUE, 0), -1);
        Check.due("what 3", g.advice(0, 3), -2);
        Check.due("what -1", g.advice(1, -1), -2);
        Check.due("then", g.advice(0, 1), 2);
        Check.due("then", g.advice(1, 1), 3);
        Check.due("asked first", g.advice(1, 2), 1);
        Check.due("asked again", g.advice(1, 2), 0);
        Check.due("another asked first", g.advice(0, 2), 1);
        Check.due("another asked again", g.advice(0, 2), 0);
        g.plan(1, 4, 0, 0);
        Check.due("planned again", g.advice(0, 2), 1);
        Check.due("planned again", g.advice(1, 2), 1);
        Check.due("one street", g.plan(1, 2, 0, 0), 1);
        Check.due("one street", g.advice(0, 2), -1);
        Check.due("none", g.plan(4, 1, 0, 0), -1);
        Check.due("none", g.advice(0, 0), -1);
        askedOfReplanned();
    }

    private static void askedOfReplanned() {
        RouteGuide g = new RouteGuide();
        for (int n = 0; n < 4; n++) {
            g.node(n * 10, 0);
        }
        g.street(1, 2, 1, 1, 0);
        g.street(2, 4, 1, 1, 0);
        g.street(1, 3, 1, 1, 0);
        g.street(3, 4, 1, 1, 0);
        g.plan(1, 4, 0, 0);
        Check.due("asked first", g.advice(0, 2), 1);
        g.traffic(1, 0, 2);
        Check.due("another way", g.replan(0), 1);
        Check.due("asked first of this way", g.advice(0, 2), 1);
        Check.due("the first again", g.replan(0), 1);
        Check.due("asked first of this way", g.advice(0, 2), 1);
        Check.due("asked again", g.advice(0, 2), 0);
    }

    private static void search() {
        RouteGuide g = new RouteGuide();
        for (int n = 1; n <= 60; n++) {
            g.node(0, 0);
        }
        Check.due("below a", g.search(96), -2);
        Check.due("above z", g.search(123), -2);
        Check.due("below 0", g.search(-1), -2);
        Check.due("A", g.search(65), -2);
        Check.due("1", g.search(1), -2);
        Check.due("a", g.search('a'), 60);
        Check.due("ac", g.search('c'), 9);
        Check.due("aci", g.search('i'), 1);
        Check.due("fourth letter", g.search('a'), -3);
        Check.due("outside goes before the state", g.search(96), -2);
        Check.due("none any more", g.search(0), 60);
        Check.due("b", g.search('b'), 0);
        g.search(0);
        g.search('a');
        Check.due("aa", g.search('a'), 25);
        Check.due("aaa", g.search('a'), 0);
        g.search(0);
        g.search('a');
        Check.due("ab", g.search('b'), 26);
        Check.due("abz", g.search('z'), 1);
        g.search(0);
        g.search('a');
        g.search('c');
        Check.due("acj", g.search('j'), 0);
        Check.due("cleared", g.search(0), 60);
        RouteGuide h = new RouteGuide();
        Check.due("a letter before any node", h.search('a'), 0);
        h.node(0, 0);
        Check.due("aa with one node", h.search('a'), 1);
        Check.due("aab with one node", h.search('b'), 1);
        h.node(0, 0);
        Check.due("no fourth", h.search('b'), -3);
    }

    private static void parts() {
        RouteGuide g = new RouteGuide();
        Check.due("part -1", g.part(1, -1), -2);
        Check.due("part 8", g.part(1, 8), -2);
        Check.due("part 32", g.part(1, 32), -2);
        Check.due("part", g.part(1, Integer.MIN_VALUE), -2);
        Check.due("edition 0", g.part(0, 0), -2);
        Check.due("edition -1", g.part(-1, 0), -2);
        for (int n = 7; n >= 0; n--) {
            Check.due("taken", g.part(4, n), 1);
            Check.due("there", g.part(4, n), 0);
            if (n > 0) {
                Check.due("another edition", g.part(5, n - 1), 0);
                Check.due("another edition", g.part(3, n - 1), 0);
            }
        }
        for (int n = 0; n < 8; n++) {
            Check.due("not greater", g.part(4, n), 0);
            Check.due("not greater", g.part(1, n), 0);
        }
        Check.due("greater", g.part(Integer.MAX_VALUE, 3), 1);
        Check.due("there", g.part(Integer.MAX_VALUE, 3), 0);
        Check.due("the edition before", g.part(4, 0), 0);
        for (int n = 0; n < 8; n++) {
            Check.due("greatest edition", g.part(Integer.MAX_VALUE, n), n == 3 ? 0 : 1);
        }
        Check.due("none is greater", g.part(Integer.MAX_VALUE, 0), 0);
    }
}
