/** Counts the answers that are not as due, and ends a test by them. */
final class Check {
    interface Call {
        long answer();
    }

    interface Act {
        void run();
    }

    private int looked;
    private int wrong;

    void same(String what, long got, long due) {
        looked++;
        if (got != due) {
            wrong++;
            System.out.println(what + " answered " + got + ", due is " + due);
        }
    }

    void yes(String what, boolean got) {
        same(what, got ? 1 : 0, 1);
    }

    void no(String what, boolean got) {
        same(what, got ? 1 : 0, 0);
    }

    void text(String what, BeanLoom loom, long object, String due) {
        looked++;
        StringBuilder got = new StringBuilder();
        if (object < 0 || loom.about((int) object, 0) != 14) {
            got.append("no text: ").append(object);
        } else {
            for (int at = 0; at < loom.about((int) object, 1); at++) {
                got.append((char) loom.get((int) object, at));
            }
        }
        if (!got.toString().equals(due)) {
            wrong++;
            System.out.println(what + " is " + got + ", due is " + due);
        }
    }

    void argument(String what, Act act) {
        thrown(what, act, IllegalArgumentException.class);
    }

    void state(String what, Act act) {
        thrown(what, act, IllegalStateException.class);
    }

    void unsupported(String what, Act act) {
        thrown(what, act, UnsupportedOperationException.class);
    }

    void bounds(String what, Act act) {
        thrown(what, act, IndexOutOfBoundsException.class);
    }

    void argument(String what, BeanLoom loom, Act act) {
        refused(what, loom, act, IllegalArgumentException.class);
    }

    void state(String what, BeanLoom loom, Act act) {
        refused(what, loom, act, IllegalStateException.class);
    }

    void unsupported(String what, BeanLoom loom, Act act) {
        refused(what, loom, act, UnsupportedOperationException.class);
    }

    void bounds(String what, BeanLoom loom, Act act) {
        refused(what, loom, act, IndexOutOfBoundsException.class);
    }

    /** The call throws just this, and all that the loom tells of itself stays as it was. */
    private void refused(String what, BeanLoom loom, Act act, Class<?> due) {
        String before = Looms.state(loom);
        thrown(what, act, due);
        stays(what, loom, before);
    }

    /** The call answers false, and all that the loom tells of itself stays as it was. */
    void notPut(String what, BeanLoom loom, int object, int at, long v) {
        String before = Looms.state(loom);
        no(what, loom.put(object, at, v));
        stays(what, loom, before);
    }

    private void stays(String what, BeanLoom loom, String before) {
        looked++;
        String after = Looms.state(loom);
        if (!after.equals(before)) {
            wrong++;
            System.out.println(what + " changed\n" + before + "\nto\n" + after);
        }
    }

    private void thrown(String what, Act act, Class<?> due) {
        looked++;
        Class<?> got = null;
        try {
            act.run();
        } catch (RuntimeException e) {
            got = e.getClass();
        }
        if (got != due) {
            wrong++;
            System.out.println(what + " throws " + got + ", due is " + due);
        }
    }

    /** Builds, and looks at what the diagnosis tells: 0 for a build without a fault. */
    void diagnosis(String what, BeanLoom loom, int fault, int method, int place) {
        boolean thrown = false;
        try {
            loom.build();
        } catch (IllegalArgumentException e) {
            thrown = true;
        }
        same(what + ": build() throws", thrown ? 1 : 0, fault == 0 ? 0 : 1);
        same(what + ": diagnosis(0)", loom.diagnosis(0), fault);
        same(what + ": diagnosis(1)", loom.diagnosis(1), method);
        same(what + ": diagnosis(2)", loom.diagnosis(2), place);
        same(what + ": count(4)", loom.count(4), fault == 0 ? 1 : 0);
    }

    void end() {
        System.out.println(looked + " looked at, " + wrong + " wrong");
        if (wrong != 0) {
            System.exit(1);
        }
    }
}
