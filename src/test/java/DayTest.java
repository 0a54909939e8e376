/** Promises 17, 41 to 43 and 46: DAYS by draws, and what they would bring. */
public final class DayTest {
    public static void main(String[] args) {
        promise17Days();
        promise17StuckAndPawned();
        promise17Edges();
        promise17WithoutThings();
        promise41Odds();
        promise42Trial();
        promise43Span();
        promise46Seed();
        Check.end();
    }

    /** From SEED 1 on DRAWS are 16838, 5758, 10113; 17515, 31051, 5627; 23010, 7419, 16212. */
    private static void promise17Days() {
        BorrowedLuck x = Check.coast(Check.THREE);
        Check.due("weddings of three days", x.days(3), 2);
        int[][] her = {{21, 30, 20, 30}, {50, 0, 5, 9}, {6, 10, 5, 0}};
        int[] wed = {1, 2, 1};
        for (int w = 0; w < 3; w++) {
            for (int s = 0; s < 4; s++) {
                Check.due("woman(" + w + ", " + s + ") then", x.woman(w, s), her[w][s]);
            }
            Check.due("wed of " + w, x.woman(w, 5), wed[w]);
        }
        Check.due("1 came to the widow 2, and stays", x.thing(1, 5), 2);
        Check.due("its wear", x.thing(1, 6), 6);
        Check.due("day", x.count(4), 3);
        int[][] rows = {{2, 0, 0, 0}, {0, 2, 1, 20}};
        for (int ago = 0; ago < 2; ago++) {
            for (int what = 0; what < 4; what++) {
                Check.due("log(" + ago + ", " + what + ")", x.log(ago, what), rows[ago][what]);
            }
        }
        Check.due("rows", x.count(10), 2);
        Check.due("the seed as 9 draws leave it", x.seed(1) >>> 16 & 32767, 16212);
    }

    private static void promise17StuckAndPawned() {
        BorrowedLuck x = Check.coast("woman 0 0 0 0 purse 5;woman 0 0 0 0 purse 0;thing 99 0 0 0 of 0;love 0", "flow 9;stick");
        x.pawn(0);
        Check.due("pawned", x.days(20), 0);
        x.redeem(0);
        Check.due("no more pawned", x.days(20) > 0, true);

        BorrowedLuck stuck = Check.coast("woman 0 0 0 0 purse 0;woman 0 0 0 0 purse 0;thing 9 0 0 0 of 0;love 0", "stick");
        int had = stuck.days(60);
        int holder = stuck.thing(0, 5);
        Check.due("all weddings are of her with whom it stuck", stuck.led(holder, false), had);
        Check.due("none is of the other one", stuck.led(1 - holder, false), 0);
    }

    private static void promise17Edges() {
        BorrowedLuck x = Check.coast("woman 98 0 0 0 purse 0;thing 98 0 0 0 of 0;love 100;day 999", "flow 0");
        Check.due("each day", x.days(60), 60);
        Check.due("luck 99 at most", x.woman(0, 0), 99);
        Check.due("wed 9 at most", x.woman(0, 5), 9);
        Check.due("wear", x.thing(0, 6), 60);
        for (int i = 0; i < 149; i++) {
            x.days(60);
        }
        Check.due("day 9999 and no more come", x.count(4), 999 + 60 * 150);
        x.days(1);
        Check.due("day 9999 at most", x.count(4), 9999);
        Check.due("rows", x.count(10), 60);
        Check.noNumber("days(0)", () -> x.days(0));
        Check.noNumber("days(61)", () -> x.days(61));
        Check.noNumber("days(-1)", () -> x.days(-1));
    }

    private static void promise17WithoutThings() {
        BorrowedLuck x = Check.coast("woman 1 0 0 0 purse 0;love 100");
        Check.due("no weddings", x.days(60), 0);
        Check.due("no draws", x.seed(1), 1);
        Check.due("no luck", x.woman(0, 0), 1);
        Check.due("but days", x.count(4), 60);
        BorrowedLuck none = new BorrowedLuck();
        Check.due("without women", none.days(1), 0);
        Check.due("a day", none.count(4), 1);
    }

    private static void promise41Odds() {
        BorrowedLuck x = Check.coast(Check.THREE, "flow 1;stick if thing < 1");
        Check.due("7 of 9", x.odds(), 7777);
        x.wed(0, 0);
        Check.due("5 of 9: one is stuck", x.odds(), 5555);
        x.lend(1, 1);
        x.pawn(1);
        Check.due("2 of 9: one is pawned", x.odds(), 2222);
        x.widow(2, false);
        Check.due("4 of 9: no widow", x.odds(), 4444);
        Check.due("without things", Check.coast("woman 1 1 1 1 purse 0").odds(), 0);
        Check.due("all", Check.coast("woman 1 1 1 1 purse 0;thing 1 1 1 1 of 0").odds(), 10000);
    }

    private static void promise42Trial() {
        BorrowedLuck x = Check.coast(Check.THREE, "flow 10;stick if woman > 1");
        String was = Check.seen(x);
        Check.due("trial(0)", x.trial(0, false), 164);
        Check.due("trial(3)", x.trial(3, false), 186);
        Check.due("trial(0) stuck", x.trial(0, true), 0);
        Check.due("trial(3) stuck", x.trial(3, true), 2);
        Check.same("behind trials", Check.seen(x), was);
        int luck = x.trial(60, false);
        int stuck = x.trial(60, true);
        Check.noNumber("trial(61)", () -> x.trial(61, false));
        Check.noNumber("trial(-1)", () -> x.trial(-1, true));
        x.days(60);
        Check.due("luck as tried", x.count(7), luck);
        Check.due("stuck as tried", x.stuck(), stuck);
        Check.due("trial of none", new BorrowedLuck().trial(60, false), 0);
    }

    private static void promise43Span() {
        BorrowedLuck x = Check.coast(Check.THREE);
        x.seed(77);
        String was = Check.seen(x);
        int least = Integer.MAX_VALUE;
        int most = Integer.MIN_VALUE;
        for (int seed = 1; seed <= 6; seed++) {
            BorrowedLuck one = Check.coast(Check.THREE);
            one.seed(seed);
            one.days(25);
            least = Math.min(least, one.count(7));
            most = Math.max(most, one.count(7));
        }
        Check.due("the least", x.span(25, false), least);
        Check.due("the greatest", x.span(25, true), most);
        Check.due("they are not one", least < most, true);
        Check.due("of no days", x.span(0, true), 164);
        Check.same("behind spans", Check.seen(x), was);
        Check.noNumber("span(61)", () -> x.span(61, true));
        Check.noNumber("span(-1)", () -> x.span(-1, false));
        Check.due("of none", new BorrowedLuck().span(60, true), 0);
    }

    private static void promise46Seed() {
        BorrowedLuck x = Check.coast(Check.THREE);
        Check.due("at first", x.seed(-5), 1);
        Check.due("what it was", x.seed(7), -5);
        Check.due("a seed is no act", x.count(11), 0);
        BorrowedLuck other = Check.coast(Check.THREE);
        other.seed(7);
        x.days(40);
        other.days(40);
        Check.same("the same seed, the same days", Check.seen(x), Check.seen(other));
        x.seed(Integer.MAX_VALUE);
        x.days(1);
        int seed = Integer.MAX_VALUE;
        for (int i = 0; i < 3; i++) {
            seed = seed * 1103515245 + 12345;
        }
        Check.due("it goes round", x.seed(0), seed);
    }
}
