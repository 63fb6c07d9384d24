import java.lang.reflect.InvocationTargetException;
import java.lang.reflect.Method;
import java.util.Arrays;

/** Runs the test that is named first, and fails if it hasn't ended in time: a call that never ends is a fault too. */
public final class Limited {
    private static final long MINUTES = 5;

    public static void main(String[] args) throws ReflectiveOperationException, InterruptedException {
        Method test = Class.forName(args[0]).getMethod("main", String[].class);
        Thread runs = new Thread(() -> run(test, Arrays.copyOfRange(args, 1, args.length)));
        runs.setDaemon(true);
        runs.start();
        runs.join(MINUTES * 60 * 1000);
        if (runs.isAlive()) {
            System.out.println(args[0] + " has not ended in " + MINUTES + " minutes; it is at");
            for (StackTraceElement call : runs.getStackTrace()) {
                System.out.println("    " + call);
            }
            System.out.flush();
            Runtime.getRuntime().halt(1);
        }
    }

    private static void run(Method test, String[] with) {
        try {
            test.invoke(null, (Object) with);
        } catch (InvocationTargetException e) {
            e.getCause().printStackTrace(System.out);
            System.exit(1);
        } catch (IllegalAccessException e) {
            e.printStackTrace(System.out);
            System.exit(1);
        }
    }
}
