/** Promises 1 to 3, and how people walk in a second. */
public final class PeopleTest {
    private static final Check check = new Check();

    public static void main(String[] args) {
        aNewObject();
        comeAnswers();
        comeRefuses();
        peopleWalk();
        turnAnswers();
        turnAtTheGoal();
        turnRefuses();
        check.end("PeopleTest");
    }

    private static void aNewObject() {
        StairLight x = new StairLight();
        for (int what = 0; what <= 10; what++) {
            check.equal("P1 count(" + what + ")", x.count(what), 0);
        }
        int[] settings = {20, 5, 0, 8};
        for (int setting = 0; setting < 4; setting++) {
            check.equal("P1 setting(" + setting + ")", x.setting(setting), settings[setting]);
        }
        for (int floor = 0; floor < 8; floor++) {
            for (int what = 0; what < 8; what++) {
                check.equal("P1 floor(" + floor + ", " + what + ")", x.floor(floor, what), what == 2 ? 1 : 0);
            }
        }
        check.equal("P1 nobody", x.person(0, 0), StairLight.NONE);
        check.equal("P1 NONE", StairLight.NONE, -1);
        check.equal("P1 empty buffer", x.clearBuffer(), 0);
        check.same("P1 lightness", x.lightness(), 1.0);
    }

    private static void comeAnswers() {
        StairLight x = new StairLight();
        check.equal("P2 first number", x.come(0, 1), 0);
        check.equal("P2 second number", x.come(7, 0), 1);
        check.equal("P2 undoable", x.count(10), 2);
        check.equal("P2 sensors look in the next second", x.floor(0, 0), 0);
        check.equal("P2 on the stairs", x.count(1), 2);
        check.equal("P2 came", x.count(2), 2);
        check.equal("P2 number", x.person(1, 0), 1);
        check.equal("P2 floor", x.person(1, 1), 7);
        check.equal("P2 goal", x.person(1, 2), 0);
        check.equal("P2 seconds to go", x.person(1, 3), 8);
        x.pass(9);
        check.equal("P2 the first is gone", x.count(1), 1);
        check.equal("P2 numbers go on", x.come(3, 4), 2);
        check.equal("P2 those who are gone count", x.count(2), 3);
        check.equal("P2 places by number", x.person(0, 0), 1);
        x.set(3, 60);
        x.come(3, 4);
        check.equal("P2 setting 3 is to go", x.person(2, 3), 60);
    }

    private static void comeRefuses() {
        StairLight x = new StairLight();
        for (int floor : new int[] {-1, 8, Integer.MIN_VALUE, Integer.MAX_VALUE}) {
            check.refused("P2 come(" + floor + ", 0)", IndexOutOfBoundsException.class, x, () -> x.come(floor, 0));
            check.refused("P2 come(0, " + floor + ")", IndexOutOfBoundsException.class, x, () -> x.come(0, floor));
            check.refused("P2 both the same and none", IndexOutOfBoundsException.class, x, () -> x.come(floor, floor));
        }
        check.refused("P2 the same", IllegalArgumentException.class, x, () -> x.come(7, 7));
        for (int person = 0; person < 6; person++) {
            check.equal("P2 up to 6", x.come(person, 7), person);
        }
        check.refused("P2 a seventh", IllegalStateException.class, x, () -> x.come(0, 1));
        check.refused("P2 a seventh to the same floor", IllegalArgumentException.class, x, () -> x.come(1, 1));
        check.refused("P2 a seventh to no floor", IndexOutOfBoundsException.class, x, () -> x.come(1, 8));
        x.pass(16);
        check.refused("P2 who is at the goal is on the stairs still", IllegalStateException.class, x, () -> x.come(0, 1));
        x.pass(1);
        check.equal("P2 then gone", x.count(1), 5);
        check.equal("P2 then another one", x.come(0, 1), 6);
    }

    private static void peopleWalk() {
        StairLight x = new StairLight();
        x.set(3, 2);
        x.come(2, 4);
        x.come(4, 3);
        int[] floors = {2, 3, 3, 4};
        int[] left = {1, 2, 1, 0};
        for (int second = 0; second < 4; second++) {
            x.pass(1);
            check.equal("walk up: floor after " + second, x.person(0, 1), floors[second]);
            check.equal("walk up: left after " + second, x.person(0, 3), left[second]);
            if (second == 1) {
                check.equal("walk down: floor", x.person(1, 1), 3);
                check.equal("walk down: there", x.person(1, 3), 0);
            }
        }
        check.equal("who is there is still on the stairs", x.count(1), 1);
        check.equal("and on the floor", x.floor(4, 3), 1);
        x.pass(1);
        check.equal("and gone with the next second", x.count(1), 0);
        x.set(3, 5);
        x.come(0, 7);
        x.set(3, 1);
        check.equal("a new setting 3 lets people go on as they do", x.person(0, 3), 5);
        x.pass(5);
        check.equal("until the next floor", x.person(0, 1), 1);
        check.equal("then it holds", x.person(0, 3), 1);
    }

    private static void turnAnswers() {
        StairLight x = new StairLight();
        x.come(1, 5);
        x.pass(10);
        check.equal("turn: between", x.person(0, 3), 6);
        check.equal("P3 where the person went", x.turn(0, 0), 5);
        check.equal("P3 undoable", x.count(10), 3);
        check.equal("P3 goal", x.person(0, 2), 0);
        check.equal("P3 floor", x.person(0, 1), 2);
        check.equal("P3 the way begins anew", x.person(0, 3), 8);
        x.pass(3);
        check.equal("P3 to the same floor", x.turn(0, 0), 0);
        check.equal("P3 begins anew, too", x.person(0, 3), 8);
        x.set(3, 4);
        x.turn(0, 7);
        check.equal("P3 with setting 3 as it is", x.person(0, 3), 4);
        x.pass(4);
        check.equal("P3 and goes the other way", x.person(0, 1), 3);
    }

    private static void turnAtTheGoal() {
        StairLight x = new StairLight();
        x.come(1, 5);
        x.pass(3);
        check.equal("P3 to the floor where one is", x.turn(0, 1), 5);
        check.equal("P3 no seconds to go", x.person(0, 3), 0);
        x.pass(1);
        check.equal("P3 gone", x.count(1), 0);
        x.come(6, 7);
        x.pass(8);
        check.equal("P3 there, not gone", x.person(0, 3), 0);
        check.equal("P3 back from the goal", x.turn(1, 0), 7);
        check.equal("P3 on the way again", x.person(0, 3), 8);
        x.pass(8);
        check.equal("P3 down again", x.person(0, 1), 6);
    }

    private static void turnRefuses() {
        StairLight x = new StairLight();
        x.come(0, 1);
        x.come(0, 7);
        x.pass(9);
        for (int person : new int[] {-1, 0, 2, Integer.MIN_VALUE, Integer.MAX_VALUE}) {
            check.refused("P3 turn(" + person + ", 3)", IndexOutOfBoundsException.class, x, () -> x.turn(person, 3));
        }
        for (int floor : new int[] {-1, 8, Integer.MIN_VALUE, Integer.MAX_VALUE}) {
            check.refused("P3 turn(1, " + floor + ")", IndexOutOfBoundsException.class, x, () -> x.turn(1, floor));
        }
        check.equal("P3 the number, not the place", x.turn(1, 3), 7);
    }
}
