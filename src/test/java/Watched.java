/** Runs a test that has no watch of its own: if it does not come to an end, it fails, as one that uses Check does. */
public final class Watched {
    private Watched() {
    }

    public static void main(String[] args) throws Exception {
        Check.holds("a test is named", args.length == 1);
        Class.forName(args[0]).getMethod("main", String[].class).invoke(null, (Object) new String[0]);
    }
}
