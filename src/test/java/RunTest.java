/** Plays for the promises that their titles name; see Due for what the lines mean. */
public final class RunTest {
    public static void main(String[] arguments) {
        Due.play("Promises 9, 13: prices count from the next begin() on, elements too", """
            text `a(){x=new[3];print x[0];}` = 1
            price(3, 5) = 1
            price(3, 7) = 5
            price(17, 4) = 0
            price(17, 4) = 4
            price(2, 1) = -1
            price(18, 1) = -1
            price(3, -1) = -1
            price(3, 1001) = -1
            price(16, 1000) = 1
            price(16, 0) = 1000
            begin(0, 0, 0, 0) = 1
            price(3, 100) = 7
            price(15, 50) = 1
            run(9) = 2
            state(5) = 20
            begin(0, 0, 0, 0) = 1
            run(9) = 2
            state(5) = 162
            """);
        Due.play("Promise 10: arguments of the first activation, of runs from now on", """
            text `a(p,q,r,s){print p;print q;print r;print s;}b(p){print p;}` = 2
            argument(0, 11) = 0
            argument(1, -2147483647) = 0
            argument(2, 2147483647) = 0
            argument(3, 44) = 0
            argument(3, -2147483648) = -1
            argument(4, 1) = -1
            argument(-1, 1) = -1
            begin(0, 0, 0, 0) = 1
            argument(3, 55) = 44
            run(4) = 4
            printed(*) = 11 -2147483647 2147483647 44 0 0
            printed(-1) = 0
            begin(1, 0, 0, 0) = 1
            run(20) = 1
            printed(*) = 11 0
            state(4) = 1
            """);
        Due.play("Promise 11: what can't be", """
            text `a(){print 1;}` = 1
            begin(0, 5, 1, 3) = 1
            run(1) = 1
            begin(1, 0, 0, 0) = -1
            begin(-1, 0, 0, 0) = -1
            begin(0, -1, 0, 0) = -1
            begin(0, 0, 2, 0) = -1
            begin(0, 0, -1, 0) = -1
            begin(0, 0, 0, -1) = -1
            state(*) = 2 1 -1 1 1 1 1 0 0 3
            begin(0, 0, 0, 0) = 1
            state(*) = 1 0 0 1 0 0 0 0 0 3
            """);
        Due.play("Promise 11: what was told of the run before is gone, keepers are empty but watch on", """
            text `var v;a(){v=new[2];print 7;for i=1 to 3{x=start b();}x=1/0;}b(){lock 2{y=4;}}` = 2
            watch(0, 1, 4) = 1
            begin(0, 0, 0, 1) = 1
            run(20000) = 20
            state(*) = 2 20 -1 4 1 20 7 1 20 4
            kept(0, -1, *) = 3 0 1 4 4 12
            lock(2, *) = -1 3 0 0 0 6 14
            thrown(1, *) = 1 0 1 1
            loop(0, 0, *) = 6 1 3 3 3 1 0 0 0
            begin(0, 0, 0, 0) = 1
            state(*) = 1 0 0 1 0 0 0 0 0 3
            kept(0, -1, *) = 0 0 0 0 0 0
            lock(2, *) = -1 0 0 0 0 0 0
            thrown(1, *) = 0 0 0 0
            loop(0, 0, *) = 6 0 0 -1 -1 0 0 0 0
            printed(0) = 0
            made(0, 0) = -1
            seen(-1, 0) = -1
            tree(2, *) = 0 0 1 0 0 -1 -1
            tree(3, 0) = -1
            longest(0) = 0
            most(0, 0) = -1
            gone(0, 0) = 0
            held(0) = -1
            thread(0, *) = 0 1 0 3 -1 -1 0 -1 0
            thread(1, 0) = -1
            run(20000) = 20
            kept(0, -1, *) = 3 0 1 4 4 12
            """);
        Due.play("Promise 11: a member without a node has ended at once", """
            text `a(){try{}catch e{print 1;}}` = 1
            begin(0, 9, 0, 1) = 1
            state(*) = 2 0 -1 1 0 0 1 0 0 3
            run(5) = 0
            count(0, 0) = 1
            gone(0, 0) = 1
            most(0, 0) = 0
            thread(0, *) = 3 0 -1 -1 -1 -1 0 -1 0
            tree(2, *) = 0 0 1 0 0 -1 -1
            """);
        Due.play("Promise 12: up to n steps, 0 to 20,000", """
            text `a(){while(1){}}` = 1
            run(1) = -1
            begin(0, 0, 0, 0) = 1
            run(-1) = -1
            run(20001) = -1
            run(0) = 0
            run(7) = 7
            state(1) = 7
            run(20000) = 19993
            state(*) = 4 20000 -1
            run(5) = 0
            state(0) = 4
            """);
        Due.play("Promise 13: STUCK and ENDED are ahead of SPENT", """
            text `a(){for i=1 to 9998{x=i;}x=start c();lock 0{join 1;}}c(){lock 0{}}b(){for i=1 to 9999{x=i;}}` = 3
            begin(1, 0, 0, 0) = 1
            run(20000) = 2
            state(*) = 2 2 -1
            begin(2, 0, 0, 0) = 1
            run(20000) = 20000
            state(*) = 2 20000 -1
            begin(0, 0, 0, 0) = 1
            run(20000) = 20000
            state(*) = 4 20000 -1
            text `a(){for i=1 to 9997{x=i;}x=start c();lock 0{join 1;}}c(){lock 0{}}` = 2
            begin(0, 0, 0, 0) = 1
            run(20000) = 20000
            state(*) = 3 20000 -1
            """);
        Due.play("Promise 14: what is printed, at most 400 numbers", """
            text `a(){for i=1 to 500{print i*2;}}` = 1
            begin(0, 0, 0, 0) = 1
            run(20000) = 803
            state(4) = 400
            printed(0) = 2
            printed(399) = 800
            printed(400) = 0
            printed(-1) = 0
            thread(0, 0) = 4
            thread(0, 7) = 6
            thrown(6, *) = 1 0 1 1
            """);
        Due.play("Promises 13, 15: turns of seed 0: till a thread waits or has ended, then the lowest", """
            text `a(){x=start b();x=start b();lock 1{join 1;}join 2;print 9;}b(){lock 1{y=1;}}` = 2
            begin(0, 0, 0, 0) = 1
            run(2) = 2
            state(2) = 0
            run(1) = 1
            state(2) = 0
            run(1) = 1
            state(2) = 1
            thread(0, *) = 2 1 0 6 1 1 4 -1 0
            run(1) = 1
            state(2) = 2
            thread(1, *) = 1 1 1 3 1 0 1 -1 0
            thread(2, *) = 0 1 1 3 -1 -1 0 -1 0
            run(1) = 1
            state(2) = -1
            thread(2, *) = 1 1 1 3 1 0 1 -1 0
            lock(1, *) = 0 1 0 2 1 3 1
            run(20) = 0
            state(*) = 3 6 -1 3 0 6
            """);
        Due.play("Promise 13: turns by a seed", """
            text `a(){x=start b();x=start b();for i=1 to 4{print i;}}b(){for i=1 to 3{print 10*i;}}` = 2
            begin(0, 1, 0, 0) = 1
            turns(30) = 0 1 0 1 1 2 0 0 0 0 1 2 0 0 2 2 0 0 0 1 1 1 2 2 2 1 2 -1 -1 -1
            printed(*) = 10 1 2 3 10 4 20 30 20 30 0
            begin(0, 2147483647, 0, 0) = 1
            turns(30) = 1 1 0 0 1 2 2 2 1 2 2 1 0 1 1 1 2 0 2 2 0 0 0 0 0 0 0 -1 -1 -1
            begin(0, 77, 0, 0) = 1
            turns(12) = 1 0 1 1 1 2 1 2 0 2 0 0
            """);
        Due.play("Promise 15: a thread in its activations, waiting, ended, failed", """
            text `a(){x=b(1)+1;join start c();join start d();join 9;}b(p){return e(p);}e(p){print p;return p;}c(){x=1;x=2;}d(){throw 5;}` = 5
            thread(0, 0) = -1
            begin(0, 0, 0, 0) = 1
            thread(0, *) = 0 1 0 3 -1 -1 0 -1 0 -1
            thread(0, -1) = -1
            thread(1, 0) = -1
            thread(-1, 0) = -1
            run(1) = 1
            thread(0, *) = 0 2 1 3 -1 -1 1 -1 0
            run(1) = 1
            thread(0, *) = 0 3 2 3 -1 -1 2 -1 0
            run(1) = 1
            thread(0, *) = 0 3 2 4 -1 -1 3 -1 0
            run(1) = 1
            thread(0, *) = 0 1 0 4 -1 -1 4 -1 0
            run(1) = 1
            thread(0, *) = 2 1 0 4 1 1 5 -1 0
            thread(1, *) = 0 1 3 3 -1 -1 0 -1 0
            run(1) = 1
            thread(0, *) = 2 1 0 4 1 1 5 -1 1
            run(1) = 1
            thread(0, *) = 0 1 0 4 -1 -1 5 -1 2
            thread(1, *) = 3 0 -1 -1 -1 -1 2 -1 0
            run(20) = 5
            state(*) = 2 12 -1 3
            thread(0, *) = 4 0 -1 -1 -1 -1 9 8 3
            thread(1, *) = 3 0 -1 -1 -1 -1 2 -1 0
            thread(2, *) = 4 0 -1 -1 -1 -1 1 0 0
            """);
        Due.play("Promise 15: a thread whose member is empty has ended at once", """
            text `a(){x=start b();print x;x=start b();print x;join 1;join 2;}b(){}` = 2
            begin(0, 0, 0, 0) = 1
            run(1) = 1
            thread(1, *) = 3 0 -1 -1 -1 -1 0 -1 0
            state(3) = 2
            run(9) = 5
            state(*) = 2 6 -1 3
            printed(*) = 1 2
            """);
        Due.play("Promise 16: counts of ways, ENTRY's with the call", """
            text `a(){x=b(1)+b(2);}b(p){if(p=1){return 5;}}` = 2
            count(0, 0) = -1
            begin(0, 0, 0, 0) = 1
            count(0, 0) = 1
            count(1, 0) = 0
            count(0, 1) = 0
            run(1) = 1
            count(1, 0) = 1
            count(1, 1) = 0
            run(20) = 3
            count(0, *) = 1 1 0 -1
            count(1, *) = 2 1 1 0 1 0 -1
            count(0, -1) = -1
            count(2, 0) = -1
            count(-1, 0) = -1
            state(6) = 3
            """);
        Due.play("Promises 17, 19: PATHS gone, those that have come to their end", """
            text `a(){for i=1 to 10{if(i%3){x=i;}}b();b();}b(){}c(){x=1;}` = 3
            gone(0, 0) = -1
            most(0, 0) = -1
            begin(0, 0, 0, 0) = 1
            gone(0, 0) = 0
            most(0, 0) = -1
            most(1, 0) = -1
            run(5) = 5
            most(0, *) = 0 -1
            run(20000) = 26
            member(0, 6) = 15
            paths(0) = 5 0 1 3 5 8 / 5 0 1 3 5 9 / 4 0 1 3 6 / 4 0 1 3 7 / 5 0 1 4 10 12 / 5 0 1 4 10 13 / 4 0 1 4 11 / 2 0 2 / 3 3 5 8 / 3 3 5 9 / 2 3 6 / 2 3 7 / 3 4 10 12 / 3 4 10 13 / 2 4 11
            gone(0, *) = 1 0 0 0 0 0 0 0 6 0 3 0 1 0 0 -1 -1 -1
            gone(0, -1) = -1
            gone(3, 0) = -1
            gone(-1, 0) = -1
            most(0, *) = 8 10 0 12 -1
            most(0, -1) = -1
            most(3, 0) = -1
            most(1, *) = 0 -1
            most(2, 0) = -1
            gone(1, *) = 2 -1
            gone(2, *) = 0 0 -1
            """);
        Due.play("Promise 19: of several the least NUMBER first", """
            text `a(){b(1);b(0);b(2);b(0);b(nil);b(3);b(0);}b(p){if(p){if(p=2){x=1;}else{x=2;}}else{x=3;}}` = 2
            begin(0, 0, 0, 0) = 1
            run(20000) = 24
            most(1, *) = 5 2 0 -1 -1
            gone(1, *) = 1 0 2 0 0 4 0 0
            paths(1) = 4 0 1 4 7 / 4 0 1 4 8 / 4 0 1 5 9 / 4 0 1 5 10 / 3 0 1 6 / 3 0 2 11 / 3 0 2 12 / 2 0 3
            """);
        Due.play("Promise 20: ENTRIES, TURNS, and how loops end", """
            text `a(){for k=1 to 5{try{x=b(k);}catch e{}}}b(k){for i=1 to 4{while(1){if(k=1){break;}if(k=2){return 1;}if(k=3){throw 1;}k=k+9;try{throw 2;}catch e{}while(k>99){}if(k>30){break;}}if(i=3){if(k=5){break;}}}}` = 2
            loop(0, 0, 0) = -1
            begin(0, 0, 0, 0) = 1
            loop(0, 0, *) = 4 0 0 -1 -1 0 0 0 0 -1
            loop(1, 0, *) = 4 0 0 -1 -1 0 0 0 0
            run(9) = 9
            loop(0, 0, *) = 4 1 1 -1 -1 0 0 0 0
            loop(1, 0, *) = 4 1 1 -1 -1 0 0 0 0
            run(20000) = 178
            loop(0, 0, *) = 4 1 5 5 5 1 0 0 0
            loop(1, 0, *) = 4 5 14 1 4 3 0 1 1
            loop(1, 1, *) = 5 14 18 1 3 0 12 1 1
            loop(1, 2, *) = 15 12 0 0 0 12 0 0 0
            loop(1, 3, 0) = -1
            loop(1, -1, 0) = -1
            loop(2, 0, 0) = -1
            loop(-1, 0, 0) = -1
            loop(0, 0, -1) = -1
            """);
        Due.play("Promise 20: a test's own failure, and loops in loops left at once", """
            text `var x;a(){try{while(1/x){}}catch e{}try{for i=1 to 2{while(1){while(1/x){}}}}catch e{}for i=1 to 2{for j=1 to 2{return 1;}}}` = 1
            begin(0, 0, 0, 0) = 1
            run(20000) = 12
            loop(0, 0, *) = 3 1 0 0 0 0 0 0 1
            loop(0, 1, *) = 6 1 1 1 1 0 0 0 1
            loop(0, 2, *) = 7 1 1 1 1 0 0 0 1
            loop(0, 3, *) = 8 1 0 0 0 0 0 0 1
            loop(0, 4, *) = 11 1 1 1 1 0 0 1 0
            loop(0, 5, *) = 13 1 1 1 1 0 0 1 0
            """);
        Due.play("Promise 20: a for goes from its first to its second end", """
            text `a(){for i=-2 to 2{print i;}for i=3 to 2{print 99;}print i;x=2147;for j=999999999*2 to 999999999*2{print 1;}for k=2147483*1000+646+x-2147 to 2147483*1000+647{print 2;}}` = 1
            begin(0, 0, 0, 0) = 1
            run(20000) = 21
            state(*) = 2 21 -1 1 7
            printed(*) = -2 -1 0 1 2 2 1 0 0
            loop(0, 0, *) = 4 1 5 5 5
            loop(0, 1, *) = 7 1 0 0 0
            """);
        Due.play("Promises 11, 15, 26, 27: a run begun anew in the midst of another one knows nothing of it", """
            text `var v;a(){lock 0{x=start b();x=start b();lock 0{v=new[3];v[0]=7;v[1]=8;}join c();}join 1;join 2;}b(){lock 0{if(v){y=1;}}}c(){return start e();}e(){z=1;z=2;z=3;}d(){x=start g();lock 0{x=1;}v=new[3];if(v[0]=0){print 5;}join 1;}g(){}` = 6
            price(17, 5) = 0
            begin(0, 0, 0, 0) = 1
            run(14) = 14
            lock(0, *) = 0 1 1 2 5 13 1
            thread(1, *) = 1 1 1 3 0 0 1 -1 3
            thread(0, *) = 2 1 0 11 3 3 10 -1 4
            begin(4, 0, 0, 0) = 1
            lock(0, *) = -1 0 0 0 0 0 0
            thread(0, *) = 0 1 4 3 -1 -1 0 -1 0
            run(20000) = 8
            lock(0, *) = -1 1 0 0 0 2 1
            thread(0, *) = 3 0 -1 -1 -1 -1 8 -1 0
            thread(1, *) = 3 0 -1 -1 -1 -1 0 -1 0
            printed(0) = 5
            longest(0) = 23
            gain(17, 0) = 8
            gain(14, 7) = 29
            gone(4, *) = 1 0 0 0
            most(4, *) = 0 -1
            begin(0, 0, 0, 0) = 1
            run(20000) = 29
            longest(0) = 39
            gain(17, 0) = 24
            begin(1, 0, 0, 0) = 1
            run(20000) = 3
            longest(0) = 3
            gain(12, 6) = 8
            thread(0, *) = 3 0 -1 -1 -1 -1 3 -1 0
            lock(0, *) = -1 1 0 0 0 2 1
            """);
        Due.play("Promise 17: a PATH left in its midst by a new run", """
            text `a(p){if(p){x=1;}x=2;}` = 1
            argument(0, 1) = 0
            begin(0, 0, 0, 0) = 1
            run(1) = 1
            argument(0, 0) = 1
            begin(0, 0, 0, 0) = 1
            run(20000) = 2
            gone(0, *) = 0 0 0 1 0 0 -1 -1 -1
            weigh(1) = 1
            most(0, 0) = -1
            gone(0, 0) = -1
            """);
        Due.play("Promise 15: threads that join thread 0, or wait to no end", """
            text `a(){x=start b();y=1;y=2;}b(){join 0;print 3;}` = 2
            begin(0, 0, 0, 0) = 1
            run(4) = 4
            thread(1, *) = 0 1 1 4 -1 -1 1 -1 0
            run(20000) = 1
            printed(0) = 3
            state(*) = 2 5 -1 2
            begin(0, 5, 0, 0) = 1
            run(20000) = 6
            printed(0) = 3
            state(*) = 2 6 -1 2
            """);
        Due.end("RunTest");
    }
}
