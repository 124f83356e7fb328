/** Counts wrong answers, so that one run of a test tells all of them. */
final class Checks {
    interface Call {
        long answer();
    }

    private int made;
    private int wrong;

    void same(String what, long got, long due) {
        made++;
        if (got != due) {
            tell(what + " answered " + got + ", due is " + due);
        }
    }

    void same(String what, double got, double due) {
        made++;
        if (got != due) {
            tell(what + " answered " + got + ", due is " + due);
        }
    }

    void same(String what, String got, String due) {
        made++;
        if (!got.equals(due)) {
            tell(what + "\n  answered " + got + "\n  due is   " + due);
        }
    }

    void isTrue(String what, boolean holds) {
        made++;
        if (!holds) {
            tell("not so: " + what);
        }
    }

    /** A call with which nothing is changed; the digest is made of nearly all that the tower answers. */
    void asks(String what, GoatTower tower, long due, Call call) {
        long before = tower.digest();
        same(what, call.answer(), due);
        same(what + ", the digest after it", tower.digest(), before);
    }

    void outOfBounds(String what, GoatTower tower, Call call) {
        fails(what, tower, "IndexOutOfBoundsException", call);
    }

    void badArgument(String what, GoatTower tower, Call call) {
        fails(what, tower, "IllegalArgumentException", call);
    }

    void badState(String what, GoatTower tower, Call call) {
        fails(what, tower, "IllegalStateException", call);
    }

    /** The very class is asked for: the machine's own exceptions stand below some of the document's. */
    private void fails(String what, GoatTower tower, String due, Call call) {
        long before = tower.digest();
        same(what, outcome(call), due);
        same(what + ", the digest after it", tower.digest(), before);
    }

    /** The answer as text, or the name of what was thrown. */
    static String outcome(Call call) {
        try {
            return Long.toString(call.answer());
        } catch (RuntimeException e) {
            return e.getClass().getSimpleName();
        }
    }

    void end(String name) {
        System.out.println(name + ": " + made + " checks, " + wrong + " wrong");
        if (wrong != 0 || made == 0) {
            System.exit(1);
        }
    }

    private void tell(String what) {
        wrong++;
        if (wrong <= 40) {
            System.out.println(what);
        }
    }
}
